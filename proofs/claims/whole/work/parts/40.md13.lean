/-! The reference: piece, unsqueeze, take. -/
def pcQ (w : ab_W) (nl dl fl ln md op pl tk : Int32) (o : Option (Nat × List Nat)) (n : Nat) : ab_W → Prop := fun w2 => rS w w2 69 81 ∧ ∃ zs, zs.length ≤ n ∧ mO w2 nl dl fl ln md op pl tk (nI zs.length) ∧ mA w2 81 400 zs ∧ ∀ p, o = some p → p.2.length ≤ n → zs = p.2
section PC
variable {w w2 : ab_W} {nl dl fl ln md op pl tk : Int32} {o : Option (Nat × List Nat)} {n : Nat} {zs : List Nat} {p : Nat × List Nat}
theorem pc_F (ho : o = none) (hS : rS w w2 69 81) (hz : zs.length ≤ n) (hO : mO w2 nl dl fl ln md op pl tk (nI zs.length)) (hA : mA w2 81 400 zs) : pI (nI (pcR o n)) (pcQ w nl dl fl ln md op pl tk o n) (some (.int (nI 0))) w2 := by
  subst ho
  exact ⟨rfl, hS, zs, hz, hO, hA, fun p hp => by cases hp⟩
theorem pc_Z (ho : o = some p) (hl : n < p.2.length) (hS : rS w w2 69 81) (hz : zs.length ≤ n) (hO : mO w2 nl dl fl ln md op pl tk (nI zs.length)) (hA : mA w2 81 400 zs) : pI (nI (pcR o n)) (pcQ w nl dl fl ln md op pl tk o n) (some (.int (nI 0))) w2 := by
  subst ho
  have e : pcR (some p) n = 0 := if_neg (by omega)
  exact ⟨by rw [e], hS, zs, hz, hO, hA, fun p1 hp h9 => by cases hp; omega⟩
theorem pc_S {y : Int32} (ho : o = some p) (hl : p.2.length ≤ n) (hy : y = nI p.1) (hS : rS w w2 69 81) (hO : mO w2 nl dl fl ln md op pl tk (nI p.2.length)) (hA : mA w2 81 400 p.2) : pI (nI (pcR o n)) (pcQ w nl dl fl ln md op pl tk o n) (some (.int y)) w2 := by
  subst ho
  have e : pcR (some p) n = p.1 := if_pos hl
  exact ⟨by rw [e, hy], hS, p.2, hl, hO, hA, fun p1 hp h9 => by cases hp; rfl⟩
end PC
theorem stp_c {m : Nat} {im : List Nat} {e p : Nat} {acc : List Nat} {q : Nat × List Nat} (h : stp m im e p acc = some q) : q.1 ≤ 40 := by
  rw [stp] at h
  split at h
  · cases h; exact Nat.le_of_ble_eq_true rfl
  · split at h
    · cases h
    · split at h
      · split at h
        · cases h
        · cases h; exact Nat.le_of_ble_eq_true rfl
      · split at h
        · split at h
          · cases h
          · cases h
            dsimp only
            omega
        · split at h
          · cases h
          · cases h; exact Nat.le_of_ble_eq_true rfl
section MD
variable {G : ab_G} {w : ab_W} {nl dl fl ln md op pl tk rq : Int32} {xs ds im : List Nat} {i o li : Nat} {g : Nat → Int32} {S : CS} {j n : Nat} {q : FO}
set_option maxRecDepth 100000 in
set_option maxHeartbeats 4000000 in
theorem c_Md_piece (h : mO w nl dl fl ln md op pl tk (nI xs.length)) (hA : mA w 81 400 xs) (hI : mA w 77 600 im) (h79 : w.1 79 = some (.inl (0, 84, .inl g))) (hq : opI g j q) (hj : j < 6) (hn : q.2.2.2.2.1 ≤ 60) (hm2 : q.2.1 ≤ 2) (hx : xs.length ≤ q.2.2.2.2.1) (hp : i < li) (hli : li ≤ im.length) : ab_E G mm_Md_piece rr_Md_piece 0 [(0, .ref 69), (1, .int (nI j)), (2, .int (nI i)), (3, .int (nI li))] [] w (pI (nI (pcR (stp q.2.1 im li i xs) q.2.2.2.2.1)) (pcQ w nl dl fl ln md op pl tk (stp q.2.1 im li i xs) q.2.2.2.2.1)) := by
  have h69 : w.1 69 = _ := h
  obtain ⟨hil, hbb, f77, h77, hf77⟩ := id hI
  have hv := hf77 i (by omega)
  have hvb := getD_lt hbb (j := i) (by omega)
  have hm0 := hq.1
  generalize hst : stp q.2.1 im li i xs = st
  have est := hst.symm
  rw [stp] at est
  clear hst
  generalize hgv : im.getD i 0 = v at hv hvb est
  generalize q.2.1 = m at hm0 hm2 est
  refine e_aload_n dd_Md_piece_0 rfl ?_
  refine e_get dd_Md_piece_1 kf_Md_31 h69 rfl ?_
  refine e_iload_n dd_Md_piece_4 rfl ?_
  refine e_iald dd_Md_piece_5 h77 rfl rfl (by omega) (by decide) ?_
  refine e_top (y := nI v) hv ?_
  refine e_istore (lv1 := [(0, .ref 69), (1, .int (nI j)), (2, .int (nI i)), (3, .int (nI li)), (4, .int (nI v))]) dd_Md_piece_6 (by decide) rfl ?_
  refine e_aload_n dd_Md_piece_8 rfl ?_
  refine e_iload_n dd_Md_piece_9 rfl ?_
  refine e_iconst_n 0 dd_Md_piece_10 (by decide) ?_
  refine e_callVp (d1 := rr_Md_of) (As := [.int (nI j), .int (nI 0)]) (st := []) dd_Md_piece_11 km_Md_153 h69 rfl (by decide) rfl (Nat.le_of_ble_eq_true rfl) (Nat.le_of_ble_eq_true rfl) rfl rfl (c_Md_ofn (k := 0) h h79 (by omega) hm0) ?_
  refine e_istore (lv1 := [(0, .ref 69), (1, .int (nI j)), (2, .int (nI i)), (3, .int (nI li)), (4, .int (nI v)), (5, .int (nI m))]) dd_Md_piece_14 (by decide) rfl ?_
  refine e_iload dd_Md_piece_16 rfl ?_
  refine e_if_eq_n (tgt := 35) dd_Md_piece_18 (by decide) (by omega) (fun c18 => ?_) (fun c18 => ?_)
  · rw [if_pos (Or.inl c18)] at est
    by_cases hmk : xs.length < q.2.2.2.2.1
    · refine e_aload_n dd_Md_piece_35 rfl ?_
      refine e_iload_n dd_Md_piece_36 rfl ?_
      refine e_iload dd_Md_piece_37 rfl ?_
      refine e_callVi (d1 := rr_Md_make) (As := [.int (nI j), .int (nI v)]) (st := []) dd_Md_piece_39 km_Md_159 h69 rfl (by decide) rfl (Nat.le_of_ble_eq_true rfl) (Nat.le_of_ble_eq_true rfl) rfl rfl (c_Md_makeT h hA h79 hq hj hn hvb hmk) (fun v1 k1 => ?_)
      refine e_if_eq_b (tgt := 49) dd_Md_piece_42 (by decide) (fun h9 => absurd h9 (by decide)) (fun _ => ?_)
      refine e_iconst_n 1 dd_Md_piece_45 (by decide) ?_
      refine e_goto (tgt := 50) dd_Md_piece_46 (by decide) ?_
      exact e_iret dd_Md_piece_50 rfl (pc_S est (by rw [List.length_append]; exact hmk) rfl k1.1 k1.2.1 k1.2.2)
    · refine e_aload_n dd_Md_piece_35 rfl ?_
      refine e_iload_n dd_Md_piece_36 rfl ?_
      refine e_iload dd_Md_piece_37 rfl ?_
      refine e_callVp (d1 := rr_Md_make) (As := [.int (nI j), .int (nI v)]) (st := []) dd_Md_piece_39 km_Md_159 h69 rfl (by decide) rfl (Nat.le_of_ble_eq_true rfl) (Nat.le_of_ble_eq_true rfl) rfl rfl (c_Md_makeF h hA h79 hq hj hn (by omega)) ?_
      refine e_if_eq_b (tgt := 49) dd_Md_piece_42 (by decide) (fun _ => ?_) (fun h9 => absurd h9 (by decide))
      refine e_iconst_n 0 dd_Md_piece_49 (by decide) ?_
      exact e_iret dd_Md_piece_50 rfl (pc_Z (zs := xs) est (by simp; omega) rS.rf hx h hA)
  · refine e_iload dd_Md_piece_21 rfl ?_
    refine e_iconst_n 1 dd_Md_piece_23 (by decide) ?_
    refine e_icmp_ne_n (tgt := 51) dd_Md_piece_24 (by decide) (by omega) (by omega) (fun c24 => ?_) (fun c24 => ?_)
    · rw [if_neg (by omega)] at est
      refine e_iload_n dd_Md_piece_51 rfl ?_
      refine e_iconst_n 1 dd_Md_piece_52 (by decide) ?_
      refine e_iadd_n dd_Md_piece_53 ?_
      refine e_iload_n dd_Md_piece_54 rfl ?_
      refine e_icmp_lt_n (tgt := 60) dd_Md_piece_55 (by decide) (by omega) (by omega) (fun c55 => ?_) (fun c55 => ?_)
      · rw [if_neg (by omega)] at est
        have hw := hf77 (i + 1) (by omega)
        have hwb := getD_lt hbb (j := i + 1) (by omega)
        generalize hgw : im.getD (i + 1) 0 = b at hw hwb est
        refine e_aload_n dd_Md_piece_60 rfl ?_
        refine e_get dd_Md_piece_61 kf_Md_31 h69 rfl ?_
        refine e_iload_n dd_Md_piece_64 rfl ?_
        refine e_iconst_n 1 dd_Md_piece_65 (by decide) ?_
        refine e_iadd_n dd_Md_piece_66 ?_
        refine e_iald dd_Md_piece_67 h77 rfl rfl (by omega) (by decide) ?_
        refine e_top (y := nI b) hw ?_
        refine e_istore (lv1 := [(0, .ref 69), (1, .int (nI j)), (2, .int (nI i)), (3, .int (nI li)), (4, .int (nI v)), (5, .int (nI m)), (6, .int (nI b))]) dd_Md_piece_68 (by decide) rfl ?_
        refine e_iload dd_Md_piece_70 rfl ?_
        refine e_iconst_n 1 dd_Md_piece_72 (by decide) ?_
        refine e_icmp_ne_n (tgt := 120) dd_Md_piece_73 (by decide) (by omega) (by omega) (fun c73 => ?_) (fun c73 => ?_)
        · rw [if_neg c73] at est
          refine e_iload dd_Md_piece_120 rfl ?_
          refine e_bipush_n 32 dd_Md_piece_122 (by decide) ?_
          refine e_icmp_ge_n (tgt := 181) dd_Md_piece_124 (by decide) (by omega) (by omega) (fun c124 => ?_) (fun c124 => ?_)
          · rw [if_neg (by omega)] at est
            refine e_iload dd_Md_piece_181 rfl ?_
            refine e_bipush_n 63 dd_Md_piece_183 (by decide) ?_
            refine e_icmp_gt_n (tgt := 204) dd_Md_piece_185 (by decide) (by omega) (by omega) (fun c185 => ?_) (fun c185 => ?_)
            · rw [if_pos (by omega)] at est
              refine e_iconst_n 0 dd_Md_piece_204 (by decide) ?_
              exact e_iret dd_Md_piece_205 rfl (pc_F (zs := xs) est rS.rf hx h hA)
            · refine e_iload dd_Md_piece_188 rfl ?_
              refine e_bipush_n 31 dd_Md_piece_190 (by decide) ?_
              refine e_icmp_gt_n (tgt := 204) dd_Md_piece_192 (by decide) (by omega) (by omega) (fun c192 => ?_) (fun c192 => ?_)
              · rw [if_pos (by omega)] at est
                refine e_iconst_n 0 dd_Md_piece_204 (by decide) ?_
                exact e_iret dd_Md_piece_205 rfl (pc_F (zs := xs) est rS.rf hx h hA)
              · refine e_iload dd_Md_piece_195 rfl ?_
                refine e_aload_n dd_Md_piece_197 rfl ?_
                refine e_get dd_Md_piece_198 kf_Md_67 h69 rfl ?_
                refine e_icmp_lt_n (tgt := 206) dd_Md_piece_201 (by decide) (by omega) (by omega) (fun c201 => ?_) (fun c201 => ?_)
                · rw [if_neg (by omega)] at est
                  refine e_bipush_n 32 dd_Md_piece_206 (by decide) ?_
                  refine e_istore (lv1 := [(0, .ref 69), (1, .int (nI j)), (2, .int (nI i)), (3, .int (nI li)), (4, .int (nI v)), (5, .int (nI m)), (6, .int (nI b)), (7, .int (nI 32))]) dd_Md_piece_208 (by decide) rfl ?_
                  have hfl : (cpB b (v - 32 + 3) xs).length = xs.length + (v - 32 + 3) := cpB_len _ _ _
                  refine l_Md_pieceC (v := v) (b := b) (m := m) hvb hwb (by omega) h79 hI hq hj hn (cpB b (v - 32 + 3) xs) (fun hle w2 q1 q2 q3 => ?_) (fun hlt w2 zs q1 q2 q3 q4 => pc_Z est hlt q1 q2 q3 q4) (v - 32 + 3) 32 w xs (by omega) rfl c201 hx rS.rf h hA
                  refine e_iconst_n 2 dd_Md_piece_249 (by decide) ?_
                  exact e_iret dd_Md_piece_250 rfl (pc_S est hle rfl q1 q2 q3)
                · rw [if_pos (by omega)] at est
                  refine e_iconst_n 0 dd_Md_piece_204 (by decide) ?_
                  exact e_iret dd_Md_piece_205 rfl (pc_F (zs := xs) est rS.rf hx h hA)
          · rw [if_pos c124] at est
            refine e_iload_n dd_Md_piece_127 rfl ?_
            refine e_iconst_n 1 dd_Md_piece_128 (by decide) ?_
            refine e_iadd_n dd_Md_piece_129 ?_
            refine e_iload dd_Md_piece_130 rfl ?_
            refine e_iadd_n dd_Md_piece_132 ?_
            refine e_iload_n dd_Md_piece_133 rfl ?_
            refine e_icmp_lt_n (tgt := 139) dd_Md_piece_134 (by decide) (by omega) (by omega) (fun c134 => ?_) (fun c134 => ?_)
            · rw [if_neg (by omega)] at est
              refine e_iconst_n 0 dd_Md_piece_139 (by decide) ?_
              refine e_istore (lv1 := [(0, .ref 69), (1, .int (nI j)), (2, .int (nI i)), (3, .int (nI li)), (4, .int (nI v)), (5, .int (nI m)), (6, .int (nI b)), (7, .int (nI 0))]) dd_Md_piece_140 (by decide) rfl ?_
              have hfl : (xs ++ (im.drop (i + 1)).take (v + 1)).length = xs.length + (v + 1) := by simp; omega
              refine l_Md_pieceL (v := v) (b := b) (m := m) (by omega) hvb hwb (by omega) h79 hI hq hj hn (xs ++ (im.drop (i + 1)).take (v + 1)) (fun hle w2 q1 q2 q3 => ?_) (fun hlt w2 zs q1 q2 q3 q4 => pc_Z est hlt q1 q2 q3 q4) (v + 1) 0 w xs (by omega) rfl trivial hx rS.rf h hA
              refine e_iload dd_Md_piece_176 rfl ?_
              refine e_iconst_n 2 dd_Md_piece_178 (by decide) ?_
              refine e_iadd_n dd_Md_piece_179 ?_
              exact e_iret dd_Md_piece_180 rfl (pc_S est hle rfl q1 q2 q3)
            · rw [if_pos (by omega)] at est
              refine e_iconst_n 0 dd_Md_piece_137 (by decide) ?_
              exact e_iret dd_Md_piece_138 rfl (pc_F (zs := xs) est rS.rf hx h hA)
        · rw [if_pos c73] at est
          have hv246 : 246 ≤ v := by omega
          refine e_sipush_n 246 dd_Md_piece_76 (by decide) ?_
          refine e_istore (lv1 := [(0, .ref 69), (1, .int (nI j)), (2, .int (nI i)), (3, .int (nI li)), (4, .int (nI v)), (5, .int (nI m)), (6, .int (nI b)), (7, .int (nI 246))]) dd_Md_piece_79 (by decide) rfl ?_
          by_cases h246 : v = 246
          · rw [if_pos h246] at est
            refine l_Md_pieceR (v := v) (b := b) (m := m) hvb hwb (by omega) h79 hI hq hj hn xs (fun hle w2 q1 q2 q3 => ?_) (fun hlt w2 zs q1 q2 q3 q4 => pc_F est q1 q2 q3 q4) 0 246 w xs (by omega) (by simp) trivial hx rS.rf h hA
            refine e_iload dd_Md_piece_106 rfl ?_
            refine e_sipush_n 246 dd_Md_piece_108 (by decide) ?_
            refine e_icmp_ne_n (tgt := 118) dd_Md_piece_111 (by decide) (by omega) (by omega) (fun h9 => absurd h9 (by omega)) (fun _ => ?_)
            refine e_iconst_n 0 dd_Md_piece_114 (by decide) ?_
            refine e_goto (tgt := 119) dd_Md_piece_115 (by decide) ?_
            exact e_iret dd_Md_piece_119 rfl (pc_F est q1 hle q2 q3)
          · rw [if_neg h246] at est
            refine l_Md_pieceR (v := v) (b := b) (m := m) hvb hwb (by omega) h79 hI hq hj hn (xs ++ List.replicate (v - 246) b) (fun hle w2 q1 q2 q3 => ?_) (fun hlt w2 zs q1 q2 q3 q4 => pc_Z est hlt q1 q2 q3 q4) (v - 246) 246 w xs (by omega) rfl trivial hx rS.rf h hA
            refine e_iload dd_Md_piece_106 rfl ?_
            refine e_sipush_n 246 dd_Md_piece_108 (by decide) ?_
            refine e_icmp_ne_n (tgt := 118) dd_Md_piece_111 (by decide) (by omega) (by omega) (fun _ => ?_) (fun h9 => absurd h9 (by omega))
            refine e_iconst_n 2 dd_Md_piece_118 (by decide) ?_
            exact e_iret dd_Md_piece_119 rfl (pc_S est hle rfl q1 q2 q3)
      · rw [if_pos (by omega)] at est
        refine e_iconst_n 0 dd_Md_piece_58 (by decide) ?_
        exact e_iret dd_Md_piece_59 rfl (pc_F (zs := xs) est rS.rf hx h hA)
    · refine e_iload dd_Md_piece_27 rfl ?_
      refine e_sipush_n 246 dd_Md_piece_29 (by decide) ?_
      refine e_icmp_ge_n (tgt := 51) dd_Md_piece_32 (by decide) (by omega) (by omega) (fun c32 => ?_) (fun c32 => ?_)
      · rw [if_neg (by omega)] at est
        refine e_iload_n dd_Md_piece_51 rfl ?_
        refine e_iconst_n 1 dd_Md_piece_52 (by decide) ?_
        refine e_iadd_n dd_Md_piece_53 ?_
        refine e_iload_n dd_Md_piece_54 rfl ?_
        refine e_icmp_lt_n (tgt := 60) dd_Md_piece_55 (by decide) (by omega) (by omega) (fun c55 => ?_) (fun c55 => ?_)
        · rw [if_neg (by omega)] at est
          have hw := hf77 (i + 1) (by omega)
          have hwb := getD_lt hbb (j := i + 1) (by omega)
          generalize hgw : im.getD (i + 1) 0 = b at hw hwb est
          refine e_aload_n dd_Md_piece_60 rfl ?_
          refine e_get dd_Md_piece_61 kf_Md_31 h69 rfl ?_
          refine e_iload_n dd_Md_piece_64 rfl ?_
          refine e_iconst_n 1 dd_Md_piece_65 (by decide) ?_
          refine e_iadd_n dd_Md_piece_66 ?_
          refine e_iald dd_Md_piece_67 h77 rfl rfl (by omega) (by decide) ?_
          refine e_top (y := nI b) hw ?_
          refine e_istore (lv1 := [(0, .ref 69), (1, .int (nI j)), (2, .int (nI i)), (3, .int (nI li)), (4, .int (nI v)), (5, .int (nI m)), (6, .int (nI b))]) dd_Md_piece_68 (by decide) rfl ?_
          refine e_iload dd_Md_piece_70 rfl ?_
          refine e_iconst_n 1 dd_Md_piece_72 (by decide) ?_
          refine e_icmp_ne_n (tgt := 120) dd_Md_piece_73 (by decide) (by omega) (by omega) (fun c73 => ?_) (fun c73 => ?_)
          · rw [if_neg c73] at est
            refine e_iload dd_Md_piece_120 rfl ?_
            refine e_bipush_n 32 dd_Md_piece_122 (by decide) ?_
            refine e_icmp_ge_n (tgt := 181) dd_Md_piece_124 (by decide) (by omega) (by omega) (fun c124 => ?_) (fun c124 => ?_)
            · rw [if_neg (by omega)] at est
              refine e_iload dd_Md_piece_181 rfl ?_
              refine e_bipush_n 63 dd_Md_piece_183 (by decide) ?_
              refine e_icmp_gt_n (tgt := 204) dd_Md_piece_185 (by decide) (by omega) (by omega) (fun c185 => ?_) (fun c185 => ?_)
              · rw [if_pos (by omega)] at est
                refine e_iconst_n 0 dd_Md_piece_204 (by decide) ?_
                exact e_iret dd_Md_piece_205 rfl (pc_F (zs := xs) est rS.rf hx h hA)
              · refine e_iload dd_Md_piece_188 rfl ?_
                refine e_bipush_n 31 dd_Md_piece_190 (by decide) ?_
                refine e_icmp_gt_n (tgt := 204) dd_Md_piece_192 (by decide) (by omega) (by omega) (fun c192 => ?_) (fun c192 => ?_)
                · rw [if_pos (by omega)] at est
                  refine e_iconst_n 0 dd_Md_piece_204 (by decide) ?_
                  exact e_iret dd_Md_piece_205 rfl (pc_F (zs := xs) est rS.rf hx h hA)
                · refine e_iload dd_Md_piece_195 rfl ?_
                  refine e_aload_n dd_Md_piece_197 rfl ?_
                  refine e_get dd_Md_piece_198 kf_Md_67 h69 rfl ?_
                  refine e_icmp_lt_n (tgt := 206) dd_Md_piece_201 (by decide) (by omega) (by omega) (fun c201 => ?_) (fun c201 => ?_)
                  · rw [if_neg (by omega)] at est
                    refine e_bipush_n 32 dd_Md_piece_206 (by decide) ?_
                    refine e_istore (lv1 := [(0, .ref 69), (1, .int (nI j)), (2, .int (nI i)), (3, .int (nI li)), (4, .int (nI v)), (5, .int (nI m)), (6, .int (nI b)), (7, .int (nI 32))]) dd_Md_piece_208 (by decide) rfl ?_
                    have hfl : (cpB b (v - 32 + 3) xs).length = xs.length + (v - 32 + 3) := cpB_len _ _ _
                    refine l_Md_pieceC (v := v) (b := b) (m := m) hvb hwb (by omega) h79 hI hq hj hn (cpB b (v - 32 + 3) xs) (fun hle w2 q1 q2 q3 => ?_) (fun hlt w2 zs q1 q2 q3 q4 => pc_Z est hlt q1 q2 q3 q4) (v - 32 + 3) 32 w xs (by omega) rfl c201 hx rS.rf h hA
                    refine e_iconst_n 2 dd_Md_piece_249 (by decide) ?_
                    exact e_iret dd_Md_piece_250 rfl (pc_S est hle rfl q1 q2 q3)
                  · rw [if_pos (by omega)] at est
                    refine e_iconst_n 0 dd_Md_piece_204 (by decide) ?_
                    exact e_iret dd_Md_piece_205 rfl (pc_F (zs := xs) est rS.rf hx h hA)
            · rw [if_pos c124] at est
              refine e_iload_n dd_Md_piece_127 rfl ?_
              refine e_iconst_n 1 dd_Md_piece_128 (by decide) ?_
              refine e_iadd_n dd_Md_piece_129 ?_
              refine e_iload dd_Md_piece_130 rfl ?_
              refine e_iadd_n dd_Md_piece_132 ?_
              refine e_iload_n dd_Md_piece_133 rfl ?_
              refine e_icmp_lt_n (tgt := 139) dd_Md_piece_134 (by decide) (by omega) (by omega) (fun c134 => ?_) (fun c134 => ?_)
              · rw [if_neg (by omega)] at est
                refine e_iconst_n 0 dd_Md_piece_139 (by decide) ?_
                refine e_istore (lv1 := [(0, .ref 69), (1, .int (nI j)), (2, .int (nI i)), (3, .int (nI li)), (4, .int (nI v)), (5, .int (nI m)), (6, .int (nI b)), (7, .int (nI 0))]) dd_Md_piece_140 (by decide) rfl ?_
                have hfl : (xs ++ (im.drop (i + 1)).take (v + 1)).length = xs.length + (v + 1) := by simp; omega
                refine l_Md_pieceL (v := v) (b := b) (m := m) (by omega) hvb hwb (by omega) h79 hI hq hj hn (xs ++ (im.drop (i + 1)).take (v + 1)) (fun hle w2 q1 q2 q3 => ?_) (fun hlt w2 zs q1 q2 q3 q4 => pc_Z est hlt q1 q2 q3 q4) (v + 1) 0 w xs (by omega) rfl trivial hx rS.rf h hA
                refine e_iload dd_Md_piece_176 rfl ?_
                refine e_iconst_n 2 dd_Md_piece_178 (by decide) ?_
                refine e_iadd_n dd_Md_piece_179 ?_
                exact e_iret dd_Md_piece_180 rfl (pc_S est hle rfl q1 q2 q3)
              · rw [if_pos (by omega)] at est
                refine e_iconst_n 0 dd_Md_piece_137 (by decide) ?_
                exact e_iret dd_Md_piece_138 rfl (pc_F (zs := xs) est rS.rf hx h hA)
          · rw [if_pos c73] at est
            have hv246 : 246 ≤ v := by omega
            refine e_sipush_n 246 dd_Md_piece_76 (by decide) ?_
            refine e_istore (lv1 := [(0, .ref 69), (1, .int (nI j)), (2, .int (nI i)), (3, .int (nI li)), (4, .int (nI v)), (5, .int (nI m)), (6, .int (nI b)), (7, .int (nI 246))]) dd_Md_piece_79 (by decide) rfl ?_
            by_cases h246 : v = 246
            · rw [if_pos h246] at est
              refine l_Md_pieceR (v := v) (b := b) (m := m) hvb hwb (by omega) h79 hI hq hj hn xs (fun hle w2 q1 q2 q3 => ?_) (fun hlt w2 zs q1 q2 q3 q4 => pc_F est q1 q2 q3 q4) 0 246 w xs (by omega) (by simp) trivial hx rS.rf h hA
              refine e_iload dd_Md_piece_106 rfl ?_
              refine e_sipush_n 246 dd_Md_piece_108 (by decide) ?_
              refine e_icmp_ne_n (tgt := 118) dd_Md_piece_111 (by decide) (by omega) (by omega) (fun h9 => absurd h9 (by omega)) (fun _ => ?_)
              refine e_iconst_n 0 dd_Md_piece_114 (by decide) ?_
              refine e_goto (tgt := 119) dd_Md_piece_115 (by decide) ?_
              exact e_iret dd_Md_piece_119 rfl (pc_F est q1 hle q2 q3)
            · rw [if_neg h246] at est
              refine l_Md_pieceR (v := v) (b := b) (m := m) hvb hwb (by omega) h79 hI hq hj hn (xs ++ List.replicate (v - 246) b) (fun hle w2 q1 q2 q3 => ?_) (fun hlt w2 zs q1 q2 q3 q4 => pc_Z est hlt q1 q2 q3 q4) (v - 246) 246 w xs (by omega) rfl trivial hx rS.rf h hA
              refine e_iload dd_Md_piece_106 rfl ?_
              refine e_sipush_n 246 dd_Md_piece_108 (by decide) ?_
              refine e_icmp_ne_n (tgt := 118) dd_Md_piece_111 (by decide) (by omega) (by omega) (fun _ => ?_) (fun h9 => absurd h9 (by omega))
              refine e_iconst_n 2 dd_Md_piece_118 (by decide) ?_
              exact e_iret dd_Md_piece_119 rfl (pc_S est hle rfl q1 q2 q3)
        · rw [if_pos (by omega)] at est
          refine e_iconst_n 0 dd_Md_piece_58 (by decide) ?_
          exact e_iret dd_Md_piece_59 rfl (pc_F (zs := xs) est rS.rf hx h hA)
      · rw [if_pos (Or.inr ⟨c24, c32⟩)] at est
        by_cases hmk : xs.length < q.2.2.2.2.1
        · refine e_aload_n dd_Md_piece_35 rfl ?_
          refine e_iload_n dd_Md_piece_36 rfl ?_
          refine e_iload dd_Md_piece_37 rfl ?_
          refine e_callVi (d1 := rr_Md_make) (As := [.int (nI j), .int (nI v)]) (st := []) dd_Md_piece_39 km_Md_159 h69 rfl (by decide) rfl (Nat.le_of_ble_eq_true rfl) (Nat.le_of_ble_eq_true rfl) rfl rfl (c_Md_makeT h hA h79 hq hj hn hvb hmk) (fun v1 k1 => ?_)
          refine e_if_eq_b (tgt := 49) dd_Md_piece_42 (by decide) (fun h9 => absurd h9 (by decide)) (fun _ => ?_)
          refine e_iconst_n 1 dd_Md_piece_45 (by decide) ?_
          refine e_goto (tgt := 50) dd_Md_piece_46 (by decide) ?_
          exact e_iret dd_Md_piece_50 rfl (pc_S est (by rw [List.length_append]; exact hmk) rfl k1.1 k1.2.1 k1.2.2)
        · refine e_aload_n dd_Md_piece_35 rfl ?_
          refine e_iload_n dd_Md_piece_36 rfl ?_
          refine e_iload dd_Md_piece_37 rfl ?_
          refine e_callVp (d1 := rr_Md_make) (As := [.int (nI j), .int (nI v)]) (st := []) dd_Md_piece_39 km_Md_159 h69 rfl (by decide) rfl (Nat.le_of_ble_eq_true rfl) (Nat.le_of_ble_eq_true rfl) rfl rfl (c_Md_makeF h hA h79 hq hj hn (by omega)) ?_
          refine e_if_eq_b (tgt := 49) dd_Md_piece_42 (by decide) (fun _ => ?_) (fun h9 => absurd h9 (by decide))
          refine e_iconst_n 0 dd_Md_piece_49 (by decide) ?_
          exact e_iret dd_Md_piece_50 rfl (pc_Z (zs := xs) est (by simp; omega) rS.rf hx h hA)
set_option maxRecDepth 100000 in
set_option maxHeartbeats 4000000 in
theorem l_Md_unsqueeze {e : Nat} (hI : mA w 77 600 im) (h79 : w.1 79 = some (.inl (0, 84, .inl g))) (hq : opI g j q) (hj : j < 6) (hn : q.2.2.2.2.1 ≤ 60) (hm2 : q.2.1 ≤ 2) (he : e ≤ im.length) : ∀ (k p : Nat) (w1 : ab_W) (acc : List Nat), e ≤ p + k → p ≤ 1000 → acc.length ≤ q.2.2.2.2.1 → rS w w1 69 81 → mO w1 nl dl fl ln md op pl tk (nI acc.length) → mA w1 81 400 acc → ab_E G mm_Md_unsqueeze rr_Md_unsqueeze 21 [(0, .ref 69), (1, .int (nI j)), (2, .int (nI p)), (3, .int (nI e))] [] w1 (pI (bI (uEq (uU q.2.1 im e k p acc) q.2.2.2.2.1)) fun w2 => rS w w2 69 81 ∧ ∃ zs, zs.length ≤ q.2.2.2.2.1 ∧ mO w2 nl dl fl ln md op pl tk (nI zs.length) ∧ mA w2 81 400 zs ∧ (uEq (uU q.2.1 im e k p acc) q.2.2.2.2.1 = true → uU q.2.1 im e k p acc = some zs)) := by
  have hil := hI.1
  intro k
  induction k with
  | zero =>
    intro p w1 acc hk hp hal hS h hA
    have h69 : w1.1 69 = _ := h
    have h79a := (hS.2 79 (by decide) (by decide)).trans h79
    have e1 : uU q.2.1 im e 0 p acc = some acc := rfl
    rw [e1]
    refine e_iload_n dd_Md_unsqueeze_21 rfl ?_
    refine e_iload_n dd_Md_unsqueeze_22 rfl ?_
    refine e_icmp_ge_n (tgt := 50) dd_Md_unsqueeze_23 (by decide) (by omega) (by omega) (fun _ => ?_) (fun h9 => absurd h9 (by omega))
    refine e_aload_n dd_Md_unsqueeze_50 rfl ?_
    refine e_get dd_Md_unsqueeze_51 kf_Md_67 h69 rfl ?_
    refine e_aload_n dd_Md_unsqueeze_54 rfl ?_
    refine e_iload_n dd_Md_unsqueeze_55 rfl ?_
    refine e_iconst_n 4 dd_Md_unsqueeze_56 (by decide) ?_
    refine e_callVp (d1 := rr_Md_of) (As := [.int (nI j), .int (nI 4)]) (st := [.int (nI acc.length)]) dd_Md_unsqueeze_57 km_Md_153 h69 rfl (by decide) rfl (Nat.le_of_ble_eq_true rfl) (Nat.le_of_ble_eq_true rfl) rfl rfl (c_Md_ofn (k := 4) h h79a (by omega) hq.2.2.2.2.1) ?_
    refine e_icmp_ne_n (tgt := 67) dd_Md_unsqueeze_60 (by decide) (by omega) (by omega) (fun c60 => ?_) (fun c60 => ?_)
    · refine e_iconst_n 0 dd_Md_unsqueeze_67 (by decide) ?_
      exact e_zret dd_Md_unsqueeze_68 rfl (by decide) (pI_of (bI_f (decide_eq_false c60)) ⟨hS, acc, hal, h, hA, fun _ => rfl⟩)
    · refine e_iconst_n 1 dd_Md_unsqueeze_63 (by decide) ?_
      refine e_goto (tgt := 68) dd_Md_unsqueeze_64 (by decide) ?_
      exact e_zret dd_Md_unsqueeze_68 rfl (by decide) (pI_of (bI_t (decide_eq_true c60)) ⟨hS, acc, hal, h, hA, fun _ => rfl⟩)
  | succ k ih =>
    intro p w1 acc hk hp hal hS h hA
    have h69 : w1.1 69 = _ := h
    have h79a := (hS.2 79 (by decide) (by decide)).trans h79
    have hI1 := hI.keep (hS.2 77 (by decide) (by decide))
    by_cases hpe : p < e
    · refine e_iload_n dd_Md_unsqueeze_21 rfl ?_
      refine e_iload_n dd_Md_unsqueeze_22 rfl ?_
      refine e_icmp_ge_n (tgt := 50) dd_Md_unsqueeze_23 (by decide) (by omega) (by omega) (fun h9 => absurd h9 (by omega)) (fun _ => ?_)
      refine e_aload_n dd_Md_unsqueeze_26 rfl ?_
      refine e_iload_n dd_Md_unsqueeze_27 rfl ?_
      refine e_iload_n dd_Md_unsqueeze_28 rfl ?_
      refine e_iload_n dd_Md_unsqueeze_29 rfl ?_
      have k0 := c_Md_piece (G := G) h hA hI1 h79a hq hj hn hm2 hal hpe he
      rw [uU, if_pos hpe]
      have hsm := fun z => stp_mono (m := q.2.1) (im := im) (e := e) (p := p) (acc := acc) (q := z)
      have hsc := fun z => stp_c (m := q.2.1) (im := im) (e := e) (p := p) (acc := acc) (q := z)
      rcases hst : stp q.2.1 im e p acc with - | z
      · rw [hst] at k0
        refine e_callVi (d1 := rr_Md_piece) (As := [.int (nI j), .int (nI p), .int (nI e)]) (st := []) dd_Md_unsqueeze_30 km_Md_163 h69 rfl (by decide) rfl (Nat.le_of_ble_eq_true rfl) (Nat.le_of_ble_eq_true rfl) rfl rfl (k0) (fun v1 k1 => ?_)
        refine e_istore (lv1 := [(0, .ref 69), (1, .int (nI j)), (2, .int (nI p)), (3, .int (nI e)), (4, .int (nI 0))]) dd_Md_unsqueeze_33 (by decide) rfl ?_
        refine e_iload dd_Md_unsqueeze_35 rfl ?_
        refine e_if_ne_n (tgt := 42) dd_Md_unsqueeze_37 (by decide) (by omega) (fun h9 => absurd h9 (by decide)) (fun _ => ?_)
        refine e_iconst_n 0 dd_Md_unsqueeze_40 (by decide) ?_
        obtain ⟨q1, zs, q2, q3, q4, -⟩ := k1
        exact e_zret dd_Md_unsqueeze_41 rfl (by decide) (pI_of rfl ⟨hS.tr q1, zs, q2, q3, q4, fun h9 => by cases h9⟩)
      · rw [hst] at k0
        have hz1 := hsm z hst
        have hz2 := hsc z hst
        have hmo := uU_mono (m := q.2.1) (im := im) (e := e) k (p + z.1) z.2
        by_cases hzl : z.2.length ≤ q.2.2.2.2.1
        · have ep : pcR (some z) q.2.2.2.2.1 = z.1 := if_pos hzl
          rw [ep] at k0
          refine e_callVi (d1 := rr_Md_piece) (As := [.int (nI j), .int (nI p), .int (nI e)]) (st := []) dd_Md_unsqueeze_30 km_Md_163 h69 rfl (by decide) rfl (Nat.le_of_ble_eq_true rfl) (Nat.le_of_ble_eq_true rfl) rfl rfl (k0) (fun v1 k1 => ?_)
          refine e_istore (lv1 := [(0, .ref 69), (1, .int (nI j)), (2, .int (nI p)), (3, .int (nI e)), (4, .int (nI z.1))]) dd_Md_unsqueeze_33 (by decide) rfl ?_
          refine e_iload dd_Md_unsqueeze_35 rfl ?_
          refine e_if_ne_n (tgt := 42) dd_Md_unsqueeze_37 (by decide) (by omega) (fun _ => ?_) (fun h9 => absurd h9 (by omega))
          refine e_iload_n dd_Md_unsqueeze_42 rfl ?_
          refine e_iload dd_Md_unsqueeze_43 rfl ?_
          refine e_iadd_n dd_Md_unsqueeze_45 ?_
          refine e_istore_n (lv1 := [(0, .ref 69), (1, .int (nI j)), (2, .int (nI (p + z.1))), (3, .int (nI e)), (4, .int (nI z.1))]) dd_Md_unsqueeze_46 (by decide) rfl ?_
          refine e_goto (tgt := 21) dd_Md_unsqueeze_47 (by decide) ?_
          refine e_rm (lv1 := [(0, .ref 69), (1, .int (nI j)), (2, .int (nI (p + z.1))), (3, .int (nI e))]) 4 rfl ?_
          obtain ⟨q1, zs, q2, q3, q4, q5⟩ := k1
          have e5 := q5 z rfl hzl
          subst e5
          exact ih (p + z.1) v1 z.2 (by omega) (by omega) hzl (hS.tr q1) q3 q4
        · have ep : pcR (some z) q.2.2.2.2.1 = 0 := if_neg hzl
          rw [ep] at k0
          have eF : uEq (uU q.2.1 im e k (p + z.1) z.2) q.2.2.2.2.1 = false := by
            rcases hu : uU q.2.1 im e k (p + z.1) z.2 with - | ys
            · rfl
            · have := hmo ys hu
              exact decide_eq_false (by omega)
          dsimp only
          rw [eF]
          refine e_callVi (d1 := rr_Md_piece) (As := [.int (nI j), .int (nI p), .int (nI e)]) (st := []) dd_Md_unsqueeze_30 km_Md_163 h69 rfl (by decide) rfl (Nat.le_of_ble_eq_true rfl) (Nat.le_of_ble_eq_true rfl) rfl rfl (k0) (fun v1 k1 => ?_)
          refine e_istore (lv1 := [(0, .ref 69), (1, .int (nI j)), (2, .int (nI p)), (3, .int (nI e)), (4, .int (nI 0))]) dd_Md_unsqueeze_33 (by decide) rfl ?_
          refine e_iload dd_Md_unsqueeze_35 rfl ?_
          refine e_if_ne_n (tgt := 42) dd_Md_unsqueeze_37 (by decide) (by omega) (fun h9 => absurd h9 (by decide)) (fun _ => ?_)
          refine e_iconst_n 0 dd_Md_unsqueeze_40 (by decide) ?_
          obtain ⟨q1, zs, q2, q3, q4, -⟩ := k1
          exact e_zret dd_Md_unsqueeze_41 rfl (by decide) (pI_of rfl ⟨hS.tr q1, zs, q2, q3, q4, fun h9 => by cases h9⟩)
    · have e1 : uU q.2.1 im e (k + 1) p acc = some acc := by rw [uU, if_neg hpe]
      rw [e1]
      refine e_iload_n dd_Md_unsqueeze_21 rfl ?_
      refine e_iload_n dd_Md_unsqueeze_22 rfl ?_
      refine e_icmp_ge_n (tgt := 50) dd_Md_unsqueeze_23 (by decide) (by omega) (by omega) (fun _ => ?_) (fun h9 => absurd h9 (by omega))
      refine e_aload_n dd_Md_unsqueeze_50 rfl ?_
      refine e_get dd_Md_unsqueeze_51 kf_Md_67 h69 rfl ?_
      refine e_aload_n dd_Md_unsqueeze_54 rfl ?_
      refine e_iload_n dd_Md_unsqueeze_55 rfl ?_
      refine e_iconst_n 4 dd_Md_unsqueeze_56 (by decide) ?_
      refine e_callVp (d1 := rr_Md_of) (As := [.int (nI j), .int (nI 4)]) (st := [.int (nI acc.length)]) dd_Md_unsqueeze_57 km_Md_153 h69 rfl (by decide) rfl (Nat.le_of_ble_eq_true rfl) (Nat.le_of_ble_eq_true rfl) rfl rfl (c_Md_ofn (k := 4) h h79a (by omega) hq.2.2.2.2.1) ?_
      refine e_icmp_ne_n (tgt := 67) dd_Md_unsqueeze_60 (by decide) (by omega) (by omega) (fun c60 => ?_) (fun c60 => ?_)
      · refine e_iconst_n 0 dd_Md_unsqueeze_67 (by decide) ?_
        exact e_zret dd_Md_unsqueeze_68 rfl (by decide) (pI_of (bI_f (decide_eq_false c60)) ⟨hS, acc, hal, h, hA, fun _ => rfl⟩)
      · refine e_iconst_n 1 dd_Md_unsqueeze_63 (by decide) ?_
        refine e_goto (tgt := 68) dd_Md_unsqueeze_64 (by decide) ?_
        exact e_zret dd_Md_unsqueeze_68 rfl (by decide) (pI_of (bI_t (decide_eq_true c60)) ⟨hS, acc, hal, h, hA, fun _ => rfl⟩)
set_option maxRecDepth 100000 in
set_option maxHeartbeats 4000000 in
theorem c_Md_unsqueeze (h : mO w nl dl fl ln md op pl tk rq) (hX : mA w 81 400 xs) (hI : mA w 77 600 im) (h79 : w.1 79 = some (.inl (0, 84, .inl g))) (hq : opI g j q) (hj : j < 6) (hok : foOK im.length q) : ab_E G mm_Md_unsqueeze rr_Md_unsqueeze 0 [(0, .ref 69), (1, .int (nI j))] [] w (pI (bI (uEq (unsq q.2.1 im q.2.2.1 (q.2.2.1 + q.2.2.2.1)) q.2.2.2.2.1)) fun w2 => rS w w2 69 81 ∧ ∃ zs, zs.length ≤ q.2.2.2.2.1 ∧ mO w2 nl dl fl ln md op pl tk (nI zs.length) ∧ mA w2 81 400 zs ∧ (uEq (unsq q.2.1 im q.2.2.1 (q.2.2.1 + q.2.2.2.1)) q.2.2.2.2.1 = true → unsq q.2.1 im q.2.2.1 (q.2.2.1 + q.2.2.2.1) = some zs)) := by
  have h69 : w.1 69 = _ := h
  have hil := hI.1
  obtain ⟨-, -, -, hm2, hse, hn, -, -⟩ := hok
  rw [unsq_U hm2 hse]
  refine e_aload_n dd_Md_unsqueeze_0 rfl ?_
  refine e_iconst_n 0 dd_Md_unsqueeze_1 (by decide) ?_
  refine e_putx (fs1 := [.int nl, .ref 70, .int dl, .ref 71, .int fl, .ref 72, .ref 73, .ref 74, .ref 75, .ref 76, .int ln, .ref 77, .int md, .ref 78, .int op, .ref 79, .int pl, .int tk, .ref 80, .int (nI 0), .ref 81]) dd_Md_unsqueeze_2 kf_Md_67 h69 (Nat.le_of_ble_eq_true rfl) rfl rfl rfl (fun w61 h62n h62v h62f => ?_)
  have hS : rS w w61 69 81 := ⟨h62n, fun t a _ => h62f t a⟩
  have h2 : mO w61 _ _ _ _ _ _ _ _ _ := h62v
  have h79a := (h62f 79 (by decide)).trans h79
  refine e_aload_n dd_Md_unsqueeze_5 rfl ?_
  refine e_iload_n dd_Md_unsqueeze_6 rfl ?_
  refine e_iconst_n 2 dd_Md_unsqueeze_7 (by decide) ?_
  refine e_callVp (d1 := rr_Md_of) (As := [.int (nI j), .int (nI 2)]) (st := []) dd_Md_unsqueeze_8 km_Md_153 h62v rfl (by decide) rfl (Nat.le_of_ble_eq_true rfl) (Nat.le_of_ble_eq_true rfl) rfl rfl (c_Md_ofn (k := 2) h2 h79a (by omega) hq.2.2.1) ?_
  refine e_istore_n (lv1 := [(0, .ref 69), (1, .int (nI j)), (2, .int (nI q.2.2.1))]) dd_Md_unsqueeze_11 (by decide) rfl ?_
  refine e_iload_n dd_Md_unsqueeze_12 rfl ?_
  refine e_aload_n dd_Md_unsqueeze_13 rfl ?_
  refine e_iload_n dd_Md_unsqueeze_14 rfl ?_
  refine e_iconst_n 3 dd_Md_unsqueeze_15 (by decide) ?_
  refine e_callVp (d1 := rr_Md_of) (As := [.int (nI j), .int (nI 3)]) (st := [.int (nI q.2.2.1)]) dd_Md_unsqueeze_16 km_Md_153 h62v rfl (by decide) rfl (Nat.le_of_ble_eq_true rfl) (Nat.le_of_ble_eq_true rfl) rfl rfl (c_Md_ofn (k := 3) h2 h79a (by omega) hq.2.2.2.1) ?_
  refine e_iadd_n dd_Md_unsqueeze_19 ?_
  refine e_istore_n (lv1 := [(0, .ref 69), (1, .int (nI j)), (2, .int (nI q.2.2.1)), (3, .int (nI (q.2.2.1 + q.2.2.2.1)))]) dd_Md_unsqueeze_20 (by decide) rfl ?_
  refine e_mono (l_Md_unsqueeze (hI.keep (h62f 77 (by decide))) h79a hq hj hn hm2 hse (q.2.2.1 + q.2.2.2.1 - q.2.2.1) q.2.2.1 w61 [] (by omega) (by omega) (Nat.zero_le _) rS.rf h2 (hX.take (h62f 81 (by decide)) 0)) (fun r w2 hp => ?_)
  obtain ⟨q1, q2, q3⟩ := hp
  exact ⟨q1, hS.tr q2, q3⟩
set_option maxRecDepth 100000 in
set_option maxHeartbeats 4000000 in
theorem l_Md_tnames {f : Nat} {op1 : List FO} {P : Option Value → ab_W → Prop} (h : mO w nl dl fl ln md op pl tk rq) (h79 : w.1 79 = some (.inl (0, 84, .inl g))) (hop : ∀ (j : Nat) (q : FO), op1[j]? = some q → opI g j q) (h6 : op1.length ≤ 6) {len : Nat} (hok : ∀ q ∈ op1, foOK len q) (hq : op1[f]? = some q) (B : Bool) (KT : B = true → P (some (.int (-8))) w) (KF : B = false → ab_E G mm_Md_take rr_Md_take 52 [(0, .ref 69), (1, .int (nI f)), (2, .int (nI f))] [] w P) : ∀ k i, i + k = f → nbF op1 q.1 k i = B → ab_E G mm_Md_take rr_Md_take 29 [(0, .ref 69), (1, .int (nI f)), (2, .int (nI i))] [] w P := by
  have h69 : w.1 69 = _ := h
  have hfl : f < op1.length := (List.getElem?_eq_some_iff.mp hq).1
  have hkq := hok q (List.mem_of_getElem? hq)
  intro k
  induction k with
  | zero =>
    intro i hi hB
    have e0 : i = f := by omega
    subst e0
    have KF := KF hB.symm
    refine e_iload_n dd_Md_take_29 rfl ?_
    refine e_iload_n dd_Md_take_30 rfl ?_
    refine e_icmp_ge_n (tgt := 52) dd_Md_take_31 (by decide) (by omega) (by omega) (fun _ => ?_) (fun h9 => absurd h9 (by omega))
    exact KF
  | succ k ih =>
    intro i hi hB
    have hil : i < op1.length := by omega
    have hr : op1[i]? = some op1[i] := List.getElem?_eq_getElem hil
    have hkr := hok op1[i] (List.getElem_mem hil)
    generalize op1[i] = r at hr hkr
    rw [nbF, hr] at hB
    dsimp only at hB
    refine e_iload_n dd_Md_take_29 rfl ?_
    refine e_iload_n dd_Md_take_30 rfl ?_
    refine e_icmp_ge_n (tgt := 52) dd_Md_take_31 (by decide) (by omega) (by omega) (fun h9 => absurd h9 (by omega)) (fun _ => ?_)
    refine e_aload_n dd_Md_take_34 rfl ?_
    refine e_iload_n dd_Md_take_35 rfl ?_
    refine e_iload_n dd_Md_take_36 rfl ?_
    refine e_callVp (d1 := rr_Md_sameName) (As := [.int (nI f), .int (nI i)]) (st := []) dd_Md_take_37 km_Md_169 h69 rfl (by decide) rfl (Nat.le_of_ble_eq_true rfl) (Nat.le_of_ble_eq_true rfl) rfl rfl (c_Md_sameName h h79 (hop f q hq) (by omega) hkq.2.1 (hop i r hr) (by omega) hkr.2.1 hkq.2.2.1 hkr.2.2.1) ?_
    refine e_if_eq_b (tgt := 46) dd_Md_take_40 (by decide) (fun c40 => ?_) (fun c40 => ?_)
    · rw [if_neg (fun e => of_decide_eq_false c40 e.symm)] at hB
      refine e_iinc_n (a := i) (k := 1) (lv1 := [(0, .ref 69), (1, .int (nI f)), (2, .int (nI (i + 1)))]) dd_Md_take_46 rfl (by decide) (by decide) rfl ?_
      refine e_goto (tgt := 29) dd_Md_take_49 (by decide) ?_
      exact ih (i + 1) (by omega) hB
    · rw [if_pos (of_decide_eq_true c40).symm] at hB
      refine e_bipush (v := -8) dd_Md_take_43 (by decide) ?_
      exact e_iret dd_Md_take_45 rfl (KT hB.symm)
set_option maxRecDepth 100000 in
set_option maxHeartbeats 4000000 in
theorem l_Md_tcrc {f : Nat} {P : Option Value → ab_W → Prop} (h : mO w nl dl fl ln md op pl tk (nI xs.length)) (hA : mA w 81 400 xs) (R : Nat) (K : ab_E G mm_Md_take rr_Md_take 93 [(0, .ref 69), (1, .int (nI f)), (2, .int (nI R)), (3, .int (nI xs.length))] [] w P) : ∀ k i c, i + k = xs.length → c < 65536 → cN xs c i k = R → ab_E G mm_Md_take rr_Md_take 68 [(0, .ref 69), (1, .int (nI f)), (2, .int (nI c)), (3, .int (nI i))] [] w P := by
  have h69 : w.1 69 = _ := h
  obtain ⟨hl, hb, f81, h81, hf81⟩ := id hA
  intro k
  induction k with
  | zero =>
    intro i c hi hc hR
    have e0 : i = xs.length := by omega
    subst e0
    cases (show c = R from hR)
    refine e_iload_n dd_Md_take_68 rfl ?_
    refine e_aload_n dd_Md_take_69 rfl ?_
    refine e_get dd_Md_take_70 kf_Md_67 h69 rfl ?_
    refine e_icmp_ge_n (tgt := 93) dd_Md_take_73 (by decide) (by omega) (by omega) (fun _ => ?_) (fun h9 => absurd h9 (by omega))
    exact K
  | succ k ih =>
    intro i c hi hc hR
    refine e_iload_n dd_Md_take_68 rfl ?_
    refine e_aload_n dd_Md_take_69 rfl ?_
    refine e_get dd_Md_take_70 kf_Md_67 h69 rfl ?_
    refine e_icmp_ge_n (tgt := 93) dd_Md_take_73 (by decide) (by omega) (by omega) (fun h9 => absurd h9 (by omega)) (fun _ => ?_)
    refine e_iload_n dd_Md_take_76 rfl ?_
    refine e_aload_n dd_Md_take_77 rfl ?_
    refine e_get dd_Md_take_78 kf_Md_47 h69 rfl ?_
    refine e_iload_n dd_Md_take_81 rfl ?_
    refine e_iald dd_Md_take_82 h81 rfl rfl (by omega) (by decide) ?_
    refine e_top (y := nI (xs.getD i 0)) (hf81 i (by omega)) ?_
    refine e_callSp (d1 := rr_Md_checked) (As := [.int (nI c), .int (nI (xs.getD i 0))]) (st := []) dd_Md_take_83 km_Md_93 (by decide) rfl (Nat.le_of_ble_eq_true rfl) (Nat.le_of_ble_eq_true rfl) rfl rfl (c_Md_checked hc (getD_lt hb (by omega))) ?_
    refine e_istore_n (lv1 := [(0, .ref 69), (1, .int (nI f)), (2, .int (nI (c1 c (xs.getD i 0)))), (3, .int (nI i))]) dd_Md_take_86 (by decide) rfl ?_
    refine e_iinc_n (a := i) (k := 1) (lv1 := [(0, .ref 69), (1, .int (nI f)), (2, .int (nI (c1 c (xs.getD i 0)))), (3, .int (nI (i + 1)))]) dd_Md_take_87 rfl (by decide) (by decide) rfl ?_
    refine e_goto (tgt := 68) dd_Md_take_90 (by decide) ?_
    exact ih (i + 1) _ (by omega) (c1_lt hc) hR
set_option maxRecDepth 100000 in
set_option maxHeartbeats 4000000 in
theorem l_Md_tcopy {f : Nat} {x2 : Int32} {P : Option Value → ab_W → Prop} (h : mO w nl dl fl ln md op pl tk (nI xs.length)) (hA : mA w 81 400 xs) (hl6 : xs.length ≤ 60) (K : ∀ w2, rS w w2 80 80 → mA w2 80 60 xs → ab_E G mm_Md_take rr_Md_take 142 [(0, .ref 69), (1, .int (nI f)), (2, .int x2), (3, .int (nI xs.length))] [] w2 P) : ∀ (k i : Nat) (w1 : ab_W), i + k = xs.length → rS w w1 80 80 → mA w1 80 60 (xs.take i) → ab_E G mm_Md_take rr_Md_take 116 [(0, .ref 69), (1, .int (nI f)), (2, .int x2), (3, .int (nI i))] [] w1 P := by
  intro k
  induction k with
  | zero =>
    intro i w1 hi hS hT
    have e0 : i = xs.length := by omega
    subst e0
    have h69 : w1.1 69 = _ := (hS.2 69 (by decide) (by decide)).trans h
    rw [List.take_length] at hT
    refine e_iload_n dd_Md_take_116 rfl ?_
    refine e_aload_n dd_Md_take_117 rfl ?_
    refine e_get dd_Md_take_118 kf_Md_67 h69 rfl ?_
    refine e_icmp_ge_n (tgt := 142) dd_Md_take_121 (by decide) (by omega) (by omega) (fun _ => ?_) (fun h9 => absurd h9 (by omega))
    exact K w1 hS hT
  | succ k ih =>
    intro i w1 hi hS hT
    have h69 : w1.1 69 = _ := (hS.2 69 (by decide) (by decide)).trans h
    obtain ⟨-, hb, f81, h81, hf81⟩ := hA.keep (hS.2 81 (by decide) (by decide))
    obtain ⟨-, -, f80, h80, hf80⟩ := id hT
    have hlt : (xs.take i).length = i := by rw [List.length_take]; omega
    have hil : i < xs.length := by omega
    refine e_iload_n dd_Md_take_116 rfl ?_
    refine e_aload_n dd_Md_take_117 rfl ?_
    refine e_get dd_Md_take_118 kf_Md_67 h69 rfl ?_
    refine e_icmp_ge_n (tgt := 142) dd_Md_take_121 (by decide) (by omega) (by omega) (fun h9 => absurd h9 (by omega)) (fun _ => ?_)
    refine e_aload_n dd_Md_take_124 rfl ?_
    refine e_get dd_Md_take_125 kf_Md_44 h69 rfl ?_
    refine e_iload_n dd_Md_take_128 rfl ?_
    refine e_aload_n dd_Md_take_129 rfl ?_
    refine e_get dd_Md_take_130 kf_Md_47 h69 rfl ?_
    refine e_iload_n dd_Md_take_133 rfl ?_
    refine e_iald dd_Md_take_134 h81 rfl rfl (by omega) (by decide) ?_
    refine e_top (y := nI (xs.getD i 0)) (hf81 i hil) ?_
    refine e_iastx dd_Md_take_135 h80 rfl rfl (by omega) (by decide) (fun w61 h62n h62v h62f => ?_)
    refine e_iinc_n (a := i) (k := 1) (lv1 := [(0, .ref 69), (1, .int (nI f)), (2, .int x2), (3, .int (nI (i + 1)))]) dd_Md_take_136 rfl (by decide) (by decide) rfl ?_
    refine e_goto (tgt := 116) dd_Md_take_139 (by decide) ?_
    exact ih (i + 1) w61 (by omega) ⟨h62n.trans hS.1, fun t a b => (h62f t a).trans (hS.2 t a b)⟩ (by
      have z := hT.snocAt (getD_lt hb hil) (by omega) hlt.symm h62v hf80
      rwa [← take_snoc (f := xs.getD i 0) (by rw [List.getD_eq_getElem?_getD, List.getElem?_eq_getElem hil]; rfl)] at z)
set_option maxRecDepth 100000 in
set_option maxHeartbeats 4000000 in
theorem c_Md_take (h : mRep w S) (f : Int32) : ab_E G mm_Md_take rr_Md_take 0 [(0, .ref 69), (1, .int f)] [] w (mEnd w (mTake f S)) := by
  obtain ⟨nm, by_, fs, im, op, pl, tk⟩ := S
  have h0 := h
  obtain ⟨⟨md, rq, hO⟩, hnm, hby, hF, him, ⟨ds, hds⟩, hP, htk, ⟨xs, hxs⟩⟩ := h
  have h69 : w.1 69 = _ := hO
  have hnl := hnm.1
  have hbl := hby.1
  have hfl := hF.1
  have hil := him.1
  have hpl := hP.1
  have htl := htk.1
  refine e_iload_n dd_Md_take_0 rfl ?_
  refine e_iconst_n 0 dd_Md_take_1 (by decide) ?_
  refine e_aload_n dd_Md_take_2 rfl ?_
  refine e_get dd_Md_take_3 kf_Md_127 h69 rfl ?_
  refine e_iconst_n 1 dd_Md_take_6 (by decide) ?_
  refine e_isub dd_Md_take_7 ?_
  refine e_callSp (d1 := rr_Md_in) (As := [.int f, .int (nI 0), .int ((nI op.length) - (nI 1))]) (st := []) dd_Md_take_8 km_Md_50 (by decide) rfl (Nat.le_of_ble_eq_true rfl) (Nat.le_of_ble_eq_true rfl) rfl rfl (c_Md_in f (nI 0) (nI op.length - nI 1)) ?_
  refine e_top (y := bI (decide (0 ≤ f ∧ f < nI op.length))) (congrArg bI (dec_sub1 (by omega))) ?_
  refine e_if_ne_b (tgt := 16) dd_Md_take_11 (by decide) (fun c11 => ?_) (fun c11 => ?_)
  · have c11 := of_decide_eq_true c11
    obtain ⟨j, hj, rfl, ej⟩ := nI_self (Int32.not_lt.mpr c11.1)
    have hjl : j < op.length := (nI_ltI hj (by omega)).mp c11.2
    have hq : op[j]? = some op[j] := List.getElem?_eq_getElem hjl
    have hok := hP.2.1 op[j] (List.getElem_mem hjl)
    generalize op[j] = q at hq hok
    obtain ⟨-, hoks, g, h79, hg⟩ := id hP
    have hqI := hg j q hq
    have emt : mTake (nI j) (nm, by_, fs, im, op, pl, tk) = if safe q.1 = false then (-6, (nm, by_, fs, im, op, pl, tk)) else if nbF op q.1 j 0 = true then (-8, (nm, by_, fs, im, op, pl, tk)) else (match unsq q.2.1 im q.2.2.1 (q.2.2.1 + q.2.2.2.1) with
      | none => (-5, (nm, by_, fs, im, op, pl, tk))
      | some ys => if ys.length ≠ q.2.2.2.2.1 then (-5, (nm, by_, fs, im, op, pl, tk)) else if crc ys ≠ q.2.2.2.2.2 then (-7, (nm, by_, fs, im, op, pl, tk)) else (nI ys.length, (nm, by_, fs, im, op, pl, ys))) := by
      simp only [mTake]
      rw [if_pos c11, ej, hq]
      rfl
    refine e_aload_n dd_Md_take_16 rfl ?_
    refine e_iload_n dd_Md_take_17 rfl ?_
    refine e_callVp (d1 := rr_Md_safe) (As := [.int (nI j)]) (st := []) dd_Md_take_18 km_Md_166 h69 rfl (by decide) rfl (Nat.le_of_ble_eq_true rfl) (Nat.le_of_ble_eq_true rfl) rfl rfl (c_Md_safe hO h79 hqI (by omega) hok.2.1 hok.2.2.1) ?_
    refine e_if_ne_b (tgt := 27) dd_Md_take_21 (by decide) (fun c21 => ?_) (fun c21 => ?_)
    · rw [if_neg (by rw [c21]; decide)] at emt
      refine e_iconst_n 0 dd_Md_take_27 (by decide) ?_
      refine e_istore_n (lv1 := [(0, .ref 69), (1, .int (nI j)), (2, .int (nI 0))]) dd_Md_take_28 (by decide) rfl ?_
      refine l_Md_tnames hO h79 hg hpl hoks hq (nbF op q.1 j 0) (fun hB => ?_) (fun hB => ?_) j 0 (by omega) rfl
      · exact mEnd_of (q := (-8, (nm, by_, fs, im, op, pl, tk))) (by rw [emt, if_pos hB]) rfl h0 rG.rf
      · rw [if_neg (by rw [hB]; decide)] at emt
        have k0 := c_Md_unsqueeze (G := G) hO hxs him h79 hqI (by omega) hok
        rcases hu : uEq (unsq q.2.1 im q.2.2.1 (q.2.2.1 + q.2.2.2.1)) q.2.2.2.2.1 with - | -
        · refine e_aload_n dd_Md_take_52 rfl ?_
          refine e_iload_n dd_Md_take_53 rfl ?_
          rw [hu] at k0
          refine e_callVi (d1 := rr_Md_unsqueeze) (As := [.int (nI j)]) (st := []) dd_Md_take_54 km_Md_172 h69 rfl (by decide) rfl (Nat.le_of_ble_eq_true rfl) (Nat.le_of_ble_eq_true rfl) rfl rfl (k0) (fun v1 k1 => ?_)
          refine e_if_ne_b (tgt := 63) dd_Md_take_57 (by decide) (fun h9 => absurd h9 (by decide)) (fun _ => ?_)
          refine e_bipush (v := -5) dd_Md_take_60 (by decide) ?_
          obtain ⟨q1, zs, q2, q3, q4, -⟩ := k1
          have em2 : mTake (nI j) (nm, by_, fs, im, op, pl, tk) = (-5, (nm, by_, fs, im, op, pl, tk)) := by
            rw [emt]
            rcases hus : unsq q.2.1 im q.2.2.1 (q.2.2.1 + q.2.2.2.1) with - | ys
            · rfl
            · rw [hus] at hu
              exact if_pos (of_decide_eq_false hu)
          exact e_iret dd_Md_take_62 rfl (mEnd_of em2 rfl ⟨⟨_, _, q3⟩, hnm.keep (q1.2 70 (by decide) (by decide)), hby.keep (q1.2 71 (by decide) (by decide)), hF.keep (fun j a b => q1.2 j (by omega) (by omega)), him.keep (q1.2 77 (by decide) (by decide)), ⟨ds, hds.keep (q1.2 78 (by decide) (by decide))⟩, hP.keep (q1.2 79 (by decide) (by decide)), htk.keep (q1.2 80 (by decide) (by decide)), ⟨zs, q4⟩⟩ (rG_of q1.1 q1.2 (by decide) (by decide)))
        · refine e_aload_n dd_Md_take_52 rfl ?_
          refine e_iload_n dd_Md_take_53 rfl ?_
          rw [hu] at k0
          refine e_callVi (d1 := rr_Md_unsqueeze) (As := [.int (nI j)]) (st := []) dd_Md_take_54 km_Md_172 h69 rfl (by decide) rfl (Nat.le_of_ble_eq_true rfl) (Nat.le_of_ble_eq_true rfl) rfl rfl (k0) (fun v1 k1 => ?_)
          refine e_if_ne_b (tgt := 63) dd_Md_take_57 (by decide) (fun _ => ?_) (fun h9 => absurd h9 (by decide))
          refine e_ldc (v := 65535) dd_Md_take_63 ww_606 ?_
          refine e_top (y := nI 65535) (by decide) ?_
          refine e_istore_n (lv1 := [(0, .ref 69), (1, .int (nI j)), (2, .int (nI 65535))]) dd_Md_take_65 (by decide) rfl ?_
          refine e_iconst_n 0 dd_Md_take_66 (by decide) ?_
          refine e_istore_n (lv1 := [(0, .ref 69), (1, .int (nI j)), (2, .int (nI 65535)), (3, .int (nI 0))]) dd_Md_take_67 (by decide) rfl ?_
          obtain ⟨q1, zs, q2, q3, q4, q5⟩ := k1
          have q5 := q5 rfl
          rw [q5] at hu emt
          have hzl : zs.length = q.2.2.2.2.1 := of_decide_eq_true hu
          have hq60 := hok.2.2.2.2.2.1
          have hq65 := hok.2.2.2.2.2.2.1
          have hcl := crc_lt zs
          dsimp only at emt
          rw [if_neg (by omega)] at emt
          have hcN := crc_N zs
          generalize crc zs = C at hcN emt hcl
          refine l_Md_tcrc q3 q4 C ?_ zs.length 0 65535 (by omega) (by decide) hcN
          have h69b : v1.1 69 = _ := q3
          have h79b := (q1.2 79 (by decide) (by decide)).trans h79
          refine e_iload_n dd_Md_take_93 rfl ?_
          refine e_aload_n dd_Md_take_94 rfl ?_
          refine e_iload_n dd_Md_take_95 rfl ?_
          refine e_iconst_n 5 dd_Md_take_96 (by decide) ?_
          refine e_callVp (d1 := rr_Md_of) (As := [.int (nI j), .int (nI 5)]) (st := [.int (nI C)]) dd_Md_take_97 km_Md_153 h69b rfl (by decide) rfl (Nat.le_of_ble_eq_true rfl) (Nat.le_of_ble_eq_true rfl) rfl rfl (c_Md_ofn (k := 5) q3 h79b (by omega) hqI.2.2.2.2.2.1) ?_
          refine e_icmp_eq_n (tgt := 106) dd_Md_take_100 (by decide) (by omega) (by omega) (fun c100 => ?_) (fun c100 => ?_)
          · rw [if_neg (by omega)] at emt
            refine e_aload_n dd_Md_take_106 rfl ?_
            refine e_aload_n dd_Md_take_107 rfl ?_
            refine e_get dd_Md_take_108 kf_Md_67 h69b rfl ?_
            refine e_putx (fs1 := [.int (nI nm.length), .ref 70, .int (nI by_.length), .ref 71, .int (nI fs.length), .ref 72, .ref 73, .ref 74, .ref 75, .ref 76, .int (nI im.length), .ref 77, .int md, .ref 78, .int (nI op.length), .ref 79, .int pl, .int (nI zs.length), .ref 80, .int (nI zs.length), .ref 81]) dd_Md_take_111 kf_Md_175 h69b (Nat.le_of_ble_eq_true rfl) rfl rfl rfl (fun w61 h62n h62v h62f => ?_)
            refine e_iconst_n 0 dd_Md_take_114 (by decide) ?_
            refine e_istore_n (lv1 := [(0, .ref 69), (1, .int (nI j)), (2, .int (nI C)), (3, .int (nI 0))]) dd_Md_take_115 (by decide) rfl ?_
            refine l_Md_tcopy h62v (q4.keep (h62f 81 (by decide))) (by omega) (fun w2 hS2 hT2 => ?_) zs.length 0 w61 (by omega) rS.rf ((htk.keep (q1.2 80 (by decide) (by decide))).take (h62f 80 (by decide)) 0)
            have hf : ∀ t, t ≠ 69 → t ≠ 80 → t ≠ 81 → w2.1 t = w.1 t := fun t a b c => (hS2.2 t b b).trans ((h62f t a).trans (q1.2 t a c))
            have h69c : w2.1 69 = _ := (hS2.2 69 (by decide) (by decide)).trans h62v
            refine e_aload_n dd_Md_take_142 rfl ?_
            refine e_get dd_Md_take_143 kf_Md_175 h69c rfl ?_
            exact e_iret dd_Md_take_146 rfl (mEnd_of emt rfl ⟨⟨_, _, h69c⟩, hnm.keep (hf 70 (by decide) (by decide) (by decide)), hby.keep (hf 71 (by decide) (by decide) (by decide)), hF.keep (fun t a b => hf t (by omega) (by omega) (by omega)), him.keep (hf 77 (by decide) (by decide) (by decide)), ⟨ds, hds.keep (hf 78 (by decide) (by decide) (by decide))⟩, hP.keep (hf 79 (by decide) (by decide) (by decide)), hT2, ⟨zs, q4.keep ((hS2.2 81 (by decide) (by decide)).trans (h62f 81 (by decide)))⟩⟩ ⟨hS2.1.trans (h62n.trans q1.1), fun t ht => hf t (by omega) (by omega) (by omega)⟩)
          · rw [if_pos c100] at emt
            refine e_bipush (v := -7) dd_Md_take_103 (by decide) ?_
            exact e_iret dd_Md_take_105 rfl (mEnd_of emt rfl ⟨⟨_, _, q3⟩, hnm.keep (q1.2 70 (by decide) (by decide)), hby.keep (q1.2 71 (by decide) (by decide)), hF.keep (fun j a b => q1.2 j (by omega) (by omega)), him.keep (q1.2 77 (by decide) (by decide)), ⟨ds, hds.keep (q1.2 78 (by decide) (by decide))⟩, hP.keep (q1.2 79 (by decide) (by decide)), htk.keep (q1.2 80 (by decide) (by decide)), ⟨zs, q4⟩⟩ (rG_of q1.1 q1.2 (by decide) (by decide)))
    · rw [if_pos c21] at emt
      refine e_bipush (v := -6) dd_Md_take_24 (by decide) ?_
      exact e_iret dd_Md_take_26 rfl (mEnd_of emt rfl h0 rG.rf)
  · have c11 := of_decide_eq_false c11
    refine e_iconst (v := -1) dd_Md_take_14 (by decide) ?_
    exact e_iret dd_Md_take_15 rfl (mEnd_of (q := (_, (nm, by_, fs, im, op, pl, tk))) (by simp only [mTake]; rw [if_neg c11]) rfl h0 rG.rf)
end MD
