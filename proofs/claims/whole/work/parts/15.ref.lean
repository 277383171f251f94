set_option maxRecDepth 100000 in
set_option maxHeartbeats 4000000 in
theorem ct_QM_operate_no {h : qH} (op : Int32) (bg on : Bool) (hbeg : h.1 122 3 = b2i bg) (hon : h.1 122 37 = b2i on) (hg : ((bg && !on) && decide (nI 0 ≤ op ∧ op ≤ nI 9)) = false) : qT mi_QM_operate 1 0 0 [.ref 122, .int op] h NN (fun v1 h1 n1 => v1 = some (.int 0) ∧ h = h1 ∧ n1 = NN) := by
  refine qT.of (lv0 := [_, _, _, _, _, _, _]) (by decide +kernel) (fun _ _ => Nat.le_of_ble_eq_true rfl) rfl ?_
  refine qx_aload_n d_QM_operate_0 rfl rfl ?_
  refine qx_callV (As := []) (rest := _) d_QM_operate_1 lk_QM_147 y_QM_open v_QM_open rfl rfl rfl (by decide) rfl rfl rfl rfl (by decide) (by decide) (ct_QM_open bg on hbeg hon) ?_
  rintro _ _ _ ⟨rfl, rfl, rfl⟩
  refine qx_if_eqB (t := 17) d_QM_operate_4 rfl (fun c4 => ?_) (fun c4 => ?_)
  · refine qx_iconstN (v := 0) d_QM_operate_17 rfl ?_
    exact qx_iret d_QM_operate_18 rfl rfl (by omega) (by omega) ⟨rfl, rfl, rfl⟩
  · refine qx_iload_n d_QM_operate_7 rfl rfl ?_
    refine qx_iconstN (v := 0) d_QM_operate_8 rfl ?_
    refine qx_bipushN (v := 9) d_QM_operate_9 rfl ?_
    refine qx_callS (As := [_, _, _]) (rest := _) d_QM_operate_11 lk_QM_103 y_QM_within s_QM_within rfl rfl rfl rfl (by decide) (by decide) (ct_QM_within _ _ _) ?_
    rintro _ _ _ ⟨rfl, rfl, rfl⟩
    refine qx_if_neB (t := 19) d_QM_operate_14 rfl (fun c14 => absurd hg (by rw [c4, c14]; decide)) (fun c14 => ?_)
    refine qx_iconstN (v := 0) d_QM_operate_17 rfl ?_
    exact qx_iret d_QM_operate_18 rfl rfl (by omega) (by omega) ⟨rfl, rfl, rfl⟩
theorem q_beq_t {a b : Bool} (h : a = b) : (a == b) = true := by subst h; cases a <;> rfl
theorem q_beq_f {a b : Bool} (h : ¬ a = b) : (a == b) = false := by cases a <;> cases b <;> first | rfl | exact absurd rfl h
section QIE
variable {y : qMi} {d : Nat} {z : Option (Nat × (Nat → Int32))} {cT sT pc : Nat} {lv st : List Value} {h : qH} {n ce sl : Nat} {Rp : Option Value → qH → Nat → Prop}
theorem qx_icmp_eqE {a x : Bool} {off : Int} {t : Nat} (hd : decode y.2.1 pc = .ok (.if_icmp .eq off, 3)) (ht : (pc : Int) + off = (t : Int)) (kt : a = x → qX y d z cT sT t lv st h n ce sl Rp) (kf : ¬ a = x → qX y d z cT sT (pc + 3) lv st h n ce sl Rp) : qX y d z cT sT pc lv (.int (b2i x) :: .int (b2i a) :: st) h n ce sl Rp := qx_icmp_eq hd ht (fun q => kt (b2i_inj.mp q)) (fun q => kf (fun e => q (b2i_inj.mpr e)))
theorem qx_icmp_neE {a x : Bool} {off : Int} {t : Nat} (hd : decode y.2.1 pc = .ok (.if_icmp .ne off, 3)) (ht : (pc : Int) + off = (t : Int)) (kt : ¬ a = x → qX y d z cT sT t lv st h n ce sl Rp) (kf : a = x → qX y d z cT sT (pc + 3) lv st h n ce sl Rp) : qX y d z cT sT pc lv (.int (b2i x) :: .int (b2i a) :: st) h n ce sl Rp := qx_icmp_ne hd ht (fun q => kt (fun e => q (b2i_inj.mpr e))) (fun q => kf (b2i_inj.mp q))
end QIE
set_option maxRecDepth 100000 in
set_option maxHeartbeats 4000000 in
theorem ct_QM_operate_two {h : qH} (op : Nat) (ho8 : op < 8) (hR : h.2.2 122 = qRQM) (bg on : Bool) (hbeg : h.1 122 3 = b2i bg) (hon : h.1 122 37 = b2i on) (hbo : (bg && !on) = true) (dep : Nat) (h8 : dep ≤ 8) (hdep : h.1 122 13 = nI dep) (tr : Nat → Bool) (sz : Nat → Nat) (htr : ∀ i, i < dep → h.1 129 i = b2i (tr i)) (hsz : ∀ i, i < dep → h.1 128 i = nI (sz i)) (hsz24 : ∀ i, i < dep → sz i ≤ 24) : qT mi_QM_operate 1 0 0 [.ref 122, .int (nI op)] h NN (fun v1 h1 n1 => v1 = some (.int (b2i (decide (2 ≤ dep) && ((tr (dep - 2) == decide (6 ≤ op)) && ((tr (dep - 1) == decide (6 ≤ op)) && decide (1 + sz (dep - 2) + sz (dep - 1) ≤ 24)))))) ∧ h1 = cond (decide (2 ≤ dep) && ((tr (dep - 2) == decide (6 ≤ op)) && ((tr (dep - 1) == decide (6 ≤ op)) && decide (1 + sz (dep - 2) + sz (dep - 1) ≤ 24)))) (qpI (qpI (qpI (qpI (cpH h ((dep - 2) + 1) (dep - 2) (sz (dep - 2)) (sz (dep - 1))) 126 (24 * (dep - 2) + (1 + sz (dep - 2) + sz (dep - 1)) - 1) (nI op)) 128 (dep - 2) (nI (1 + sz (dep - 2) + sz (dep - 1)))) 129 (dep - 2) (b2i (decide (3 < op)))) 122 13 (nI ((dep - 2) + 1))) h ∧ n1 = NN) := by
  refine qT.of (lv0 := [_, _, _, _, _, _, _]) (by decide +kernel) (fun _ _ => Nat.le_of_ble_eq_true rfl) rfl ?_
  refine qx_aload_n d_QM_operate_0 rfl rfl ?_
  refine qx_callV (As := []) (rest := _) d_QM_operate_1 lk_QM_147 y_QM_open v_QM_open rfl rfl rfl (by decide) rfl rfl rfl rfl (by decide) (by decide) (ct_QM_open bg on hbeg hon) ?_
  rintro _ _ _ ⟨rfl, rfl, rfl⟩
  refine qx_if_eqB (t := 17) d_QM_operate_4 rfl (fun c4 => absurd hbo (by rw [c4]; decide)) (fun c4 => ?_)
  refine qx_iload_n d_QM_operate_7 rfl rfl ?_
  refine qx_iconstN (v := 0) d_QM_operate_8 rfl ?_
  refine qx_bipushN (v := 9) d_QM_operate_9 rfl ?_
  refine qx_callS (As := [_, _, _]) (rest := _) d_QM_operate_11 lk_QM_103 y_QM_within s_QM_within rfl rfl rfl rfl (by decide) (by decide) (ct_QM_within _ _ _) ?_
  rintro _ _ _ ⟨rfl, rfl, rfl⟩
  refine qx_if_neB (t := 19) d_QM_operate_14 rfl (fun c14 => ?_) (fun c14 => absurd (⟨nI_le (by omega) (by omega), nI_le (by omega) (by omega)⟩ : nI 0 ≤ nI op ∧ nI op ≤ nI 9) (of_decide_eq_false c14))
  refine qx_iload_n d_QM_operate_19 rfl rfl ?_
  refine qx_bipushN (v := 8) d_QM_operate_20 rfl ?_
  refine qx_icmp_geN (t := 29) d_QM_operate_22 rfl (by omega) (by omega) (fun c22 => absurd c22 (by omega)) (fun c22 => ?_)
  refine qx_iconstN (v := 2) d_QM_operate_25 rfl ?_
  refine qx_goto (t := 30) d_QM_operate_26 rfl ?_
  refine qx_istore_n (lv1 := [_, _, _, _, _, _, _]) d_QM_operate_30 rfl (by decide) rfl ?_
  refine qx_iload_n d_QM_operate_31 rfl rfl ?_
  refine qx_bipushN (v := 6) d_QM_operate_32 rfl ?_
  refine qx_icmp_ltN (t := 47) d_QM_operate_34 rfl (by omega) (by omega) (fun c34 => ?_) (fun c34 => ?_)
  · refine qx_iconst (v := b2i false) d_QM_operate_47 rfl ?_
    refine qx_istore_n (lv1 := [_, _, _, _, _, _, _]) d_QM_operate_48 rfl (by decide) rfl ?_
    refine qx_aload_n d_QM_operate_49 rfl rfl ?_
    refine qx_getI d_QM_operate_50 fI_QM_138 rfl rfl hdep ?_
    refine qx_iload_n d_QM_operate_53 rfl rfl ?_
    refine qx_icmp_geN (t := 59) d_QM_operate_54 rfl (by omega) (by omega) (fun c54 => ?_) (fun c54 => ?_)
    · refine qx_aload_n d_QM_operate_59 rfl rfl ?_
      refine qx_getI d_QM_operate_60 fI_QM_138 rfl rfl hdep ?_
      refine qx_iload_n d_QM_operate_63 rfl rfl ?_
      refine qx_isubN d_QM_operate_64 (by omega) ?_
      refine qx_istore (lv1 := [_, _, _, _, _, _, _]) d_QM_operate_65 (by decide) rfl ?_
      refine qx_iconstN (v := 1) d_QM_operate_67 rfl ?_
      refine qx_istore (lv1 := [_, _, _, _, _, _, _]) d_QM_operate_68 (by decide) rfl ?_
      refine qx_iload d_QM_operate_70 rfl ?_
      refine qx_istore (lv1 := [_, _, _, _, _, _, _]) d_QM_operate_72 (by decide) rfl ?_
      refine qx_iload d_QM_operate_74 rfl ?_
      refine qx_aload_n d_QM_operate_76 rfl rfl ?_
      refine qx_getI d_QM_operate_77 fI_QM_138 rfl rfl hdep ?_
      refine qx_icmp_geN (t := 114) d_QM_operate_80 rfl (by omega) (by omega) (fun c80 => absurd c80 (by omega)) (fun c80 => ?_)
      refine qx_aload_n d_QM_operate_83 rfl rfl ?_
      refine qx_getR d_QM_operate_84 fR_QM_30 rfl rfl (congrFun hR 19) ?_
      refine qx_iload d_QM_operate_87 rfl ?_
      refine qx_zald d_QM_operate_89 rfl rfl rfl rfl (by omega) (htr _ (by omega)) ?_
      refine qx_iload_n d_QM_operate_90 rfl rfl ?_
      refine qx_icmp_eqE (t := 96) d_QM_operate_91 rfl (fun e0 => ?_) (fun e0 => ?_)
      · refine qx_iload d_QM_operate_96 rfl ?_
        refine qx_aload_n d_QM_operate_98 rfl rfl ?_
        refine qx_getR d_QM_operate_99 fR_QM_27 rfl rfl (congrFun hR 18) ?_
        refine qx_iload d_QM_operate_102 rfl ?_
        refine qx_iald d_QM_operate_104 rfl rfl rfl rfl (by omega) (hsz _ (by omega)) ?_
        refine qx_iaddN d_QM_operate_105 ?_
        refine qx_istore (lv1 := [_, _, _, _, _, _, _]) d_QM_operate_106 (by decide) rfl ?_
        refine qx_iincN (w := 1) (lv1 := [_, _, _, _, _, _, _]) d_QM_operate_108 rfl rfl (by decide) rfl ?_
        refine qx_goto (t := 74) d_QM_operate_111 rfl ?_
        refine qx_iload d_QM_operate_74 rfl ?_
        refine qx_aload_n d_QM_operate_76 rfl rfl ?_
        refine qx_getI d_QM_operate_77 fI_QM_138 rfl rfl hdep ?_
        refine qx_icmp_geN (t := 114) d_QM_operate_80 rfl (by omega) (by omega) (fun c80 => absurd c80 (by omega)) (fun c80 => ?_)
        refine qx_aload_n d_QM_operate_83 rfl rfl ?_
        refine qx_getR d_QM_operate_84 fR_QM_30 rfl rfl (congrFun hR 19) ?_
        refine qx_iload d_QM_operate_87 rfl ?_
        refine qx_zald d_QM_operate_89 rfl rfl rfl rfl (by omega) (htr _ (by omega)) ?_
        refine qx_iload_n d_QM_operate_90 rfl rfl ?_
        refine qx_icmp_eqE (t := 96) d_QM_operate_91 rfl (fun e1 => ?_) (fun e1 => ?_)
        · refine qx_iload d_QM_operate_96 rfl ?_
          refine qx_aload_n d_QM_operate_98 rfl rfl ?_
          refine qx_getR d_QM_operate_99 fR_QM_27 rfl rfl (congrFun hR 18) ?_
          refine qx_iload d_QM_operate_102 rfl ?_
          refine qx_iald d_QM_operate_104 rfl rfl rfl rfl (by omega) (hsz _ (by omega)) ?_
          refine qx_iaddN d_QM_operate_105 ?_
          refine qx_istore (lv1 := [_, _, _, _, _, _, _]) d_QM_operate_106 (by decide) rfl ?_
          refine qx_iincN (w := 1) (lv1 := [_, _, _, _, _, _, _]) d_QM_operate_108 rfl rfl (by decide) rfl ?_
          refine qx_goto (t := 74) d_QM_operate_111 rfl ?_
          refine qx_iload d_QM_operate_74 rfl ?_
          refine qx_aload_n d_QM_operate_76 rfl rfl ?_
          refine qx_getI d_QM_operate_77 fI_QM_138 rfl rfl hdep ?_
          refine qx_icmp_geN (t := 114) d_QM_operate_80 rfl (by omega) (by omega) (fun c80 => ?_) (fun c80 => absurd c80 (by omega))
          have z0 := hsz24 (dep - 2) (by omega)
          have z1 := hsz24 (dep - 2 + 1) (by omega)
          refine qx_iload d_QM_operate_114 rfl ?_
          refine qx_bipushN (v := 24) d_QM_operate_116 rfl ?_
          refine qx_icmp_leN (t := 123) d_QM_operate_118 rfl (by omega) (by omega) (fun c118 => ?_) (fun c118 => ?_)
          · refine qx_iload_n d_QM_operate_123 rfl rfl ?_
            refine qx_iconstN (v := 2) d_QM_operate_124 rfl ?_
            refine qx_icmp_neN (t := 145) d_QM_operate_125 rfl (by omega) (by omega) (fun c125 => absurd rfl c125) (fun c125 => ?_)
            refine qx_aload_n d_QM_operate_128 rfl rfl ?_
            refine qx_iload d_QM_operate_129 rfl ?_
            refine qx_iconstN (v := 1) d_QM_operate_131 rfl ?_
            refine qx_iaddN d_QM_operate_132 ?_
            refine qx_iload d_QM_operate_133 rfl ?_
            refine qx_aload_n d_QM_operate_135 rfl rfl ?_
            refine qx_getR d_QM_operate_136 fR_QM_27 rfl rfl (congrFun hR 18) ?_
            refine qx_iload d_QM_operate_139 rfl ?_
            refine qx_iald d_QM_operate_141 rfl rfl rfl rfl (by omega) (hsz _ (by omega)) ?_
            refine qx_callV (As := [_, _, _]) (rest := _) d_QM_operate_142 lk_QM_159 y_QM_copy v_QM_copy rfl rfl rfl (by decide) rfl rfl rfl rfl (by decide) (by decide) (ct_QM_copy hR (dep - 2 + 1) (dep - 2) (sz (dep - 2)) (sz (dep - 2 + 1)) (by omega) (by omega) (by omega) (by omega) (hsz _ (by omega))) ?_
            rintro _ _ _ ⟨rfl, rfl, rfl⟩
            refine qx_aload_n d_QM_operate_145 rfl rfl ?_
            refine qx_getR d_QM_operate_146 fR_QM_21 rfl rfl (congrFun hR 16) ?_
            refine qx_bipushN (v := 24) d_QM_operate_149 rfl ?_
            refine qx_iload d_QM_operate_151 rfl ?_
            refine qx_imulN d_QM_operate_153 ?_
            refine qx_iload d_QM_operate_154 rfl ?_
            refine qx_iaddN d_QM_operate_156 ?_
            refine qx_iconstN (v := 1) d_QM_operate_157 rfl ?_
            refine qx_isubN d_QM_operate_158 (by omega) ?_
            refine qx_iload_n d_QM_operate_159 rfl rfl ?_
            refine qx_iast d_QM_operate_160 rfl rfl rfl rfl (by omega) ?_
            refine qx_aload_n d_QM_operate_161 rfl rfl ?_
            refine qx_getR d_QM_operate_162 fR_QM_27 rfl rfl (congrFun hR 18) ?_
            refine qx_iload d_QM_operate_165 rfl ?_
            refine qx_iload d_QM_operate_167 rfl ?_
            refine qx_iast d_QM_operate_169 rfl rfl rfl rfl (by omega) ?_
            refine qx_aload_n d_QM_operate_170 rfl rfl ?_
            refine qx_getR d_QM_operate_171 fR_QM_30 rfl rfl (congrFun hR 19) ?_
            refine qx_iload d_QM_operate_174 rfl ?_
            refine qx_iload_n d_QM_operate_176 rfl rfl ?_
            refine qx_iconstN (v := 3) d_QM_operate_177 rfl ?_
            refine qx_icmp_leN (t := 185) d_QM_operate_178 rfl (by omega) (by omega) (fun c178 => ?_) (fun c178 => ?_)
            · refine qx_iconstN (v := 0) d_QM_operate_185 rfl ?_
              refine qx_zast d_QM_operate_186 rfl rfl rfl rfl (by omega) rfl ?_
              refine qx_aload_n d_QM_operate_187 rfl rfl ?_
              refine qx_iload d_QM_operate_188 rfl ?_
              refine qx_iconstN (v := 1) d_QM_operate_190 rfl ?_
              refine qx_iaddN d_QM_operate_191 ?_
              refine qx_putI d_QM_operate_192 fI_QM_138 rfl rfl ⟨rfl, rfl⟩ ?_
              refine qx_iconstN (v := 1) d_QM_operate_195 rfl ?_
              exact qx_iret d_QM_operate_196 rfl rfl (by omega) (by omega) (by first | (rw [decide_eq_false (Nat.not_le.mpr c54)]; exact ⟨rfl, rfl, rfl⟩) | (have q1 : dep - 1 = dep - 2 + 1 := (by omega); rw [q1]; first | (rw [decide_eq_true c54, decide_eq_true c34, q_beq_f e0]; exact ⟨rfl, rfl, rfl⟩) | (rw [decide_eq_true c54, decide_eq_true c34, q_beq_t e0, q_beq_f e1]; exact ⟨rfl, rfl, rfl⟩) | (rw [decide_eq_true c54, decide_eq_true c34, q_beq_t e0, q_beq_t e1, decide_eq_false (Nat.not_le.mpr c118)]; exact ⟨rfl, rfl, rfl⟩) | (rw [decide_eq_true c54, decide_eq_true c34, q_beq_t e0, q_beq_t e1, decide_eq_true c118, decide_eq_true c178]; exact ⟨rfl, rfl, rfl⟩) | (rw [decide_eq_true c54, decide_eq_true c34, q_beq_t e0, q_beq_t e1, decide_eq_true c118, decide_eq_false (Nat.not_lt.mpr c178)]; exact ⟨rfl, rfl, rfl⟩) | (rw [decide_eq_true c54, decide_eq_false (Nat.not_le.mpr c34), q_beq_f e0]; exact ⟨rfl, rfl, rfl⟩) | (rw [decide_eq_true c54, decide_eq_false (Nat.not_le.mpr c34), q_beq_t e0, q_beq_f e1]; exact ⟨rfl, rfl, rfl⟩) | (rw [decide_eq_true c54, decide_eq_false (Nat.not_le.mpr c34), q_beq_t e0, q_beq_t e1, decide_eq_false (Nat.not_le.mpr c118)]; exact ⟨rfl, rfl, rfl⟩) | (rw [decide_eq_true c54, decide_eq_false (Nat.not_le.mpr c34), q_beq_t e0, q_beq_t e1, decide_eq_true c118, decide_eq_true c178]; exact ⟨rfl, rfl, rfl⟩) | (rw [decide_eq_true c54, decide_eq_false (Nat.not_le.mpr c34), q_beq_t e0, q_beq_t e1, decide_eq_true c118, decide_eq_false (Nat.not_lt.mpr c178)]; exact ⟨rfl, rfl, rfl⟩)))
            · refine qx_iconstN (v := 1) d_QM_operate_181 rfl ?_
              refine qx_goto (t := 186) d_QM_operate_182 rfl ?_
              refine qx_zast d_QM_operate_186 rfl rfl rfl rfl (by omega) rfl ?_
              refine qx_aload_n d_QM_operate_187 rfl rfl ?_
              refine qx_iload d_QM_operate_188 rfl ?_
              refine qx_iconstN (v := 1) d_QM_operate_190 rfl ?_
              refine qx_iaddN d_QM_operate_191 ?_
              refine qx_putI d_QM_operate_192 fI_QM_138 rfl rfl ⟨rfl, rfl⟩ ?_
              refine qx_iconstN (v := 1) d_QM_operate_195 rfl ?_
              exact qx_iret d_QM_operate_196 rfl rfl (by omega) (by omega) (by first | (rw [decide_eq_false (Nat.not_le.mpr c54)]; exact ⟨rfl, rfl, rfl⟩) | (have q1 : dep - 1 = dep - 2 + 1 := (by omega); rw [q1]; first | (rw [decide_eq_true c54, decide_eq_true c34, q_beq_f e0]; exact ⟨rfl, rfl, rfl⟩) | (rw [decide_eq_true c54, decide_eq_true c34, q_beq_t e0, q_beq_f e1]; exact ⟨rfl, rfl, rfl⟩) | (rw [decide_eq_true c54, decide_eq_true c34, q_beq_t e0, q_beq_t e1, decide_eq_false (Nat.not_le.mpr c118)]; exact ⟨rfl, rfl, rfl⟩) | (rw [decide_eq_true c54, decide_eq_true c34, q_beq_t e0, q_beq_t e1, decide_eq_true c118, decide_eq_true c178]; exact ⟨rfl, rfl, rfl⟩) | (rw [decide_eq_true c54, decide_eq_true c34, q_beq_t e0, q_beq_t e1, decide_eq_true c118, decide_eq_false (Nat.not_lt.mpr c178)]; exact ⟨rfl, rfl, rfl⟩) | (rw [decide_eq_true c54, decide_eq_false (Nat.not_le.mpr c34), q_beq_f e0]; exact ⟨rfl, rfl, rfl⟩) | (rw [decide_eq_true c54, decide_eq_false (Nat.not_le.mpr c34), q_beq_t e0, q_beq_f e1]; exact ⟨rfl, rfl, rfl⟩) | (rw [decide_eq_true c54, decide_eq_false (Nat.not_le.mpr c34), q_beq_t e0, q_beq_t e1, decide_eq_false (Nat.not_le.mpr c118)]; exact ⟨rfl, rfl, rfl⟩) | (rw [decide_eq_true c54, decide_eq_false (Nat.not_le.mpr c34), q_beq_t e0, q_beq_t e1, decide_eq_true c118, decide_eq_true c178]; exact ⟨rfl, rfl, rfl⟩) | (rw [decide_eq_true c54, decide_eq_false (Nat.not_le.mpr c34), q_beq_t e0, q_beq_t e1, decide_eq_true c118, decide_eq_false (Nat.not_lt.mpr c178)]; exact ⟨rfl, rfl, rfl⟩)))
          · refine qx_iconstN (v := 0) d_QM_operate_121 rfl ?_
            exact qx_iret d_QM_operate_122 rfl rfl (by omega) (by omega) (by first | (rw [decide_eq_false (Nat.not_le.mpr c54)]; exact ⟨rfl, rfl, rfl⟩) | (have q1 : dep - 1 = dep - 2 + 1 := (by omega); rw [q1]; first | (rw [decide_eq_true c54, decide_eq_true c34, q_beq_f e0]; exact ⟨rfl, rfl, rfl⟩) | (rw [decide_eq_true c54, decide_eq_true c34, q_beq_t e0, q_beq_f e1]; exact ⟨rfl, rfl, rfl⟩) | (rw [decide_eq_true c54, decide_eq_true c34, q_beq_t e0, q_beq_t e1, decide_eq_false (Nat.not_le.mpr c118)]; exact ⟨rfl, rfl, rfl⟩) | (rw [decide_eq_true c54, decide_eq_true c34, q_beq_t e0, q_beq_t e1, decide_eq_true c118, decide_eq_true c178]; exact ⟨rfl, rfl, rfl⟩) | (rw [decide_eq_true c54, decide_eq_true c34, q_beq_t e0, q_beq_t e1, decide_eq_true c118, decide_eq_false (Nat.not_lt.mpr c178)]; exact ⟨rfl, rfl, rfl⟩) | (rw [decide_eq_true c54, decide_eq_false (Nat.not_le.mpr c34), q_beq_f e0]; exact ⟨rfl, rfl, rfl⟩) | (rw [decide_eq_true c54, decide_eq_false (Nat.not_le.mpr c34), q_beq_t e0, q_beq_f e1]; exact ⟨rfl, rfl, rfl⟩) | (rw [decide_eq_true c54, decide_eq_false (Nat.not_le.mpr c34), q_beq_t e0, q_beq_t e1, decide_eq_false (Nat.not_le.mpr c118)]; exact ⟨rfl, rfl, rfl⟩) | (rw [decide_eq_true c54, decide_eq_false (Nat.not_le.mpr c34), q_beq_t e0, q_beq_t e1, decide_eq_true c118, decide_eq_true c178]; exact ⟨rfl, rfl, rfl⟩) | (rw [decide_eq_true c54, decide_eq_false (Nat.not_le.mpr c34), q_beq_t e0, q_beq_t e1, decide_eq_true c118, decide_eq_false (Nat.not_lt.mpr c178)]; exact ⟨rfl, rfl, rfl⟩)))
        · refine qx_iconstN (v := 0) d_QM_operate_94 rfl ?_
          exact qx_iret d_QM_operate_95 rfl rfl (by omega) (by omega) (by first | (rw [decide_eq_false (Nat.not_le.mpr c54)]; exact ⟨rfl, rfl, rfl⟩) | (have q1 : dep - 1 = dep - 2 + 1 := (by omega); rw [q1]; first | (rw [decide_eq_true c54, decide_eq_true c34, q_beq_f e0]; exact ⟨rfl, rfl, rfl⟩) | (rw [decide_eq_true c54, decide_eq_true c34, q_beq_t e0, q_beq_f e1]; exact ⟨rfl, rfl, rfl⟩) | (rw [decide_eq_true c54, decide_eq_true c34, q_beq_t e0, q_beq_t e1, decide_eq_false (Nat.not_le.mpr c118)]; exact ⟨rfl, rfl, rfl⟩) | (rw [decide_eq_true c54, decide_eq_true c34, q_beq_t e0, q_beq_t e1, decide_eq_true c118, decide_eq_true c178]; exact ⟨rfl, rfl, rfl⟩) | (rw [decide_eq_true c54, decide_eq_true c34, q_beq_t e0, q_beq_t e1, decide_eq_true c118, decide_eq_false (Nat.not_lt.mpr c178)]; exact ⟨rfl, rfl, rfl⟩) | (rw [decide_eq_true c54, decide_eq_false (Nat.not_le.mpr c34), q_beq_f e0]; exact ⟨rfl, rfl, rfl⟩) | (rw [decide_eq_true c54, decide_eq_false (Nat.not_le.mpr c34), q_beq_t e0, q_beq_f e1]; exact ⟨rfl, rfl, rfl⟩) | (rw [decide_eq_true c54, decide_eq_false (Nat.not_le.mpr c34), q_beq_t e0, q_beq_t e1, decide_eq_false (Nat.not_le.mpr c118)]; exact ⟨rfl, rfl, rfl⟩) | (rw [decide_eq_true c54, decide_eq_false (Nat.not_le.mpr c34), q_beq_t e0, q_beq_t e1, decide_eq_true c118, decide_eq_true c178]; exact ⟨rfl, rfl, rfl⟩) | (rw [decide_eq_true c54, decide_eq_false (Nat.not_le.mpr c34), q_beq_t e0, q_beq_t e1, decide_eq_true c118, decide_eq_false (Nat.not_lt.mpr c178)]; exact ⟨rfl, rfl, rfl⟩)))
      · refine qx_iconstN (v := 0) d_QM_operate_94 rfl ?_
        exact qx_iret d_QM_operate_95 rfl rfl (by omega) (by omega) (by first | (rw [decide_eq_false (Nat.not_le.mpr c54)]; exact ⟨rfl, rfl, rfl⟩) | (have q1 : dep - 1 = dep - 2 + 1 := (by omega); rw [q1]; first | (rw [decide_eq_true c54, decide_eq_true c34, q_beq_f e0]; exact ⟨rfl, rfl, rfl⟩) | (rw [decide_eq_true c54, decide_eq_true c34, q_beq_t e0, q_beq_f e1]; exact ⟨rfl, rfl, rfl⟩) | (rw [decide_eq_true c54, decide_eq_true c34, q_beq_t e0, q_beq_t e1, decide_eq_false (Nat.not_le.mpr c118)]; exact ⟨rfl, rfl, rfl⟩) | (rw [decide_eq_true c54, decide_eq_true c34, q_beq_t e0, q_beq_t e1, decide_eq_true c118, decide_eq_true c178]; exact ⟨rfl, rfl, rfl⟩) | (rw [decide_eq_true c54, decide_eq_true c34, q_beq_t e0, q_beq_t e1, decide_eq_true c118, decide_eq_false (Nat.not_lt.mpr c178)]; exact ⟨rfl, rfl, rfl⟩) | (rw [decide_eq_true c54, decide_eq_false (Nat.not_le.mpr c34), q_beq_f e0]; exact ⟨rfl, rfl, rfl⟩) | (rw [decide_eq_true c54, decide_eq_false (Nat.not_le.mpr c34), q_beq_t e0, q_beq_f e1]; exact ⟨rfl, rfl, rfl⟩) | (rw [decide_eq_true c54, decide_eq_false (Nat.not_le.mpr c34), q_beq_t e0, q_beq_t e1, decide_eq_false (Nat.not_le.mpr c118)]; exact ⟨rfl, rfl, rfl⟩) | (rw [decide_eq_true c54, decide_eq_false (Nat.not_le.mpr c34), q_beq_t e0, q_beq_t e1, decide_eq_true c118, decide_eq_true c178]; exact ⟨rfl, rfl, rfl⟩) | (rw [decide_eq_true c54, decide_eq_false (Nat.not_le.mpr c34), q_beq_t e0, q_beq_t e1, decide_eq_true c118, decide_eq_false (Nat.not_lt.mpr c178)]; exact ⟨rfl, rfl, rfl⟩)))
    · refine qx_iconstN (v := 0) d_QM_operate_57 rfl ?_
      exact qx_iret d_QM_operate_58 rfl rfl (by omega) (by omega) (by first | (rw [decide_eq_false (Nat.not_le.mpr c54)]; exact ⟨rfl, rfl, rfl⟩) | (have q1 : dep - 1 = dep - 2 + 1 := (by omega); rw [q1]; first | (rw [decide_eq_true c54, decide_eq_true c34, q_beq_f e0]; exact ⟨rfl, rfl, rfl⟩) | (rw [decide_eq_true c54, decide_eq_true c34, q_beq_t e0, q_beq_f e1]; exact ⟨rfl, rfl, rfl⟩) | (rw [decide_eq_true c54, decide_eq_true c34, q_beq_t e0, q_beq_t e1, decide_eq_false (Nat.not_le.mpr c118)]; exact ⟨rfl, rfl, rfl⟩) | (rw [decide_eq_true c54, decide_eq_true c34, q_beq_t e0, q_beq_t e1, decide_eq_true c118, decide_eq_true c178]; exact ⟨rfl, rfl, rfl⟩) | (rw [decide_eq_true c54, decide_eq_true c34, q_beq_t e0, q_beq_t e1, decide_eq_true c118, decide_eq_false (Nat.not_lt.mpr c178)]; exact ⟨rfl, rfl, rfl⟩) | (rw [decide_eq_true c54, decide_eq_false (Nat.not_le.mpr c34), q_beq_f e0]; exact ⟨rfl, rfl, rfl⟩) | (rw [decide_eq_true c54, decide_eq_false (Nat.not_le.mpr c34), q_beq_t e0, q_beq_f e1]; exact ⟨rfl, rfl, rfl⟩) | (rw [decide_eq_true c54, decide_eq_false (Nat.not_le.mpr c34), q_beq_t e0, q_beq_t e1, decide_eq_false (Nat.not_le.mpr c118)]; exact ⟨rfl, rfl, rfl⟩) | (rw [decide_eq_true c54, decide_eq_false (Nat.not_le.mpr c34), q_beq_t e0, q_beq_t e1, decide_eq_true c118, decide_eq_true c178]; exact ⟨rfl, rfl, rfl⟩) | (rw [decide_eq_true c54, decide_eq_false (Nat.not_le.mpr c34), q_beq_t e0, q_beq_t e1, decide_eq_true c118, decide_eq_false (Nat.not_lt.mpr c178)]; exact ⟨rfl, rfl, rfl⟩)))
  · refine qx_iload_n d_QM_operate_37 rfl rfl ?_
    refine qx_bipushN (v := 8) d_QM_operate_38 rfl ?_
    refine qx_icmp_gtN (t := 47) d_QM_operate_40 rfl (by omega) (by omega) (fun c40 => absurd c40 (by omega)) (fun c40 => ?_)
    refine qx_iconst (v := b2i true) d_QM_operate_43 rfl ?_
    refine qx_goto (t := 48) d_QM_operate_44 rfl ?_
    refine qx_istore_n (lv1 := [_, _, _, _, _, _, _]) d_QM_operate_48 rfl (by decide) rfl ?_
    refine qx_aload_n d_QM_operate_49 rfl rfl ?_
    refine qx_getI d_QM_operate_50 fI_QM_138 rfl rfl hdep ?_
    refine qx_iload_n d_QM_operate_53 rfl rfl ?_
    refine qx_icmp_geN (t := 59) d_QM_operate_54 rfl (by omega) (by omega) (fun c54 => ?_) (fun c54 => ?_)
    · refine qx_aload_n d_QM_operate_59 rfl rfl ?_
      refine qx_getI d_QM_operate_60 fI_QM_138 rfl rfl hdep ?_
      refine qx_iload_n d_QM_operate_63 rfl rfl ?_
      refine qx_isubN d_QM_operate_64 (by omega) ?_
      refine qx_istore (lv1 := [_, _, _, _, _, _, _]) d_QM_operate_65 (by decide) rfl ?_
      refine qx_iconstN (v := 1) d_QM_operate_67 rfl ?_
      refine qx_istore (lv1 := [_, _, _, _, _, _, _]) d_QM_operate_68 (by decide) rfl ?_
      refine qx_iload d_QM_operate_70 rfl ?_
      refine qx_istore (lv1 := [_, _, _, _, _, _, _]) d_QM_operate_72 (by decide) rfl ?_
      refine qx_iload d_QM_operate_74 rfl ?_
      refine qx_aload_n d_QM_operate_76 rfl rfl ?_
      refine qx_getI d_QM_operate_77 fI_QM_138 rfl rfl hdep ?_
      refine qx_icmp_geN (t := 114) d_QM_operate_80 rfl (by omega) (by omega) (fun c80 => absurd c80 (by omega)) (fun c80 => ?_)
      refine qx_aload_n d_QM_operate_83 rfl rfl ?_
      refine qx_getR d_QM_operate_84 fR_QM_30 rfl rfl (congrFun hR 19) ?_
      refine qx_iload d_QM_operate_87 rfl ?_
      refine qx_zald d_QM_operate_89 rfl rfl rfl rfl (by omega) (htr _ (by omega)) ?_
      refine qx_iload_n d_QM_operate_90 rfl rfl ?_
      refine qx_icmp_eqE (t := 96) d_QM_operate_91 rfl (fun e0 => ?_) (fun e0 => ?_)
      · refine qx_iload d_QM_operate_96 rfl ?_
        refine qx_aload_n d_QM_operate_98 rfl rfl ?_
        refine qx_getR d_QM_operate_99 fR_QM_27 rfl rfl (congrFun hR 18) ?_
        refine qx_iload d_QM_operate_102 rfl ?_
        refine qx_iald d_QM_operate_104 rfl rfl rfl rfl (by omega) (hsz _ (by omega)) ?_
        refine qx_iaddN d_QM_operate_105 ?_
        refine qx_istore (lv1 := [_, _, _, _, _, _, _]) d_QM_operate_106 (by decide) rfl ?_
        refine qx_iincN (w := 1) (lv1 := [_, _, _, _, _, _, _]) d_QM_operate_108 rfl rfl (by decide) rfl ?_
        refine qx_goto (t := 74) d_QM_operate_111 rfl ?_
        refine qx_iload d_QM_operate_74 rfl ?_
        refine qx_aload_n d_QM_operate_76 rfl rfl ?_
        refine qx_getI d_QM_operate_77 fI_QM_138 rfl rfl hdep ?_
        refine qx_icmp_geN (t := 114) d_QM_operate_80 rfl (by omega) (by omega) (fun c80 => absurd c80 (by omega)) (fun c80 => ?_)
        refine qx_aload_n d_QM_operate_83 rfl rfl ?_
        refine qx_getR d_QM_operate_84 fR_QM_30 rfl rfl (congrFun hR 19) ?_
        refine qx_iload d_QM_operate_87 rfl ?_
        refine qx_zald d_QM_operate_89 rfl rfl rfl rfl (by omega) (htr _ (by omega)) ?_
        refine qx_iload_n d_QM_operate_90 rfl rfl ?_
        refine qx_icmp_eqE (t := 96) d_QM_operate_91 rfl (fun e1 => ?_) (fun e1 => ?_)
        · refine qx_iload d_QM_operate_96 rfl ?_
          refine qx_aload_n d_QM_operate_98 rfl rfl ?_
          refine qx_getR d_QM_operate_99 fR_QM_27 rfl rfl (congrFun hR 18) ?_
          refine qx_iload d_QM_operate_102 rfl ?_
          refine qx_iald d_QM_operate_104 rfl rfl rfl rfl (by omega) (hsz _ (by omega)) ?_
          refine qx_iaddN d_QM_operate_105 ?_
          refine qx_istore (lv1 := [_, _, _, _, _, _, _]) d_QM_operate_106 (by decide) rfl ?_
          refine qx_iincN (w := 1) (lv1 := [_, _, _, _, _, _, _]) d_QM_operate_108 rfl rfl (by decide) rfl ?_
          refine qx_goto (t := 74) d_QM_operate_111 rfl ?_
          refine qx_iload d_QM_operate_74 rfl ?_
          refine qx_aload_n d_QM_operate_76 rfl rfl ?_
          refine qx_getI d_QM_operate_77 fI_QM_138 rfl rfl hdep ?_
          refine qx_icmp_geN (t := 114) d_QM_operate_80 rfl (by omega) (by omega) (fun c80 => ?_) (fun c80 => absurd c80 (by omega))
          have z0 := hsz24 (dep - 2) (by omega)
          have z1 := hsz24 (dep - 2 + 1) (by omega)
          refine qx_iload d_QM_operate_114 rfl ?_
          refine qx_bipushN (v := 24) d_QM_operate_116 rfl ?_
          refine qx_icmp_leN (t := 123) d_QM_operate_118 rfl (by omega) (by omega) (fun c118 => ?_) (fun c118 => ?_)
          · refine qx_iload_n d_QM_operate_123 rfl rfl ?_
            refine qx_iconstN (v := 2) d_QM_operate_124 rfl ?_
            refine qx_icmp_neN (t := 145) d_QM_operate_125 rfl (by omega) (by omega) (fun c125 => absurd rfl c125) (fun c125 => ?_)
            refine qx_aload_n d_QM_operate_128 rfl rfl ?_
            refine qx_iload d_QM_operate_129 rfl ?_
            refine qx_iconstN (v := 1) d_QM_operate_131 rfl ?_
            refine qx_iaddN d_QM_operate_132 ?_
            refine qx_iload d_QM_operate_133 rfl ?_
            refine qx_aload_n d_QM_operate_135 rfl rfl ?_
            refine qx_getR d_QM_operate_136 fR_QM_27 rfl rfl (congrFun hR 18) ?_
            refine qx_iload d_QM_operate_139 rfl ?_
            refine qx_iald d_QM_operate_141 rfl rfl rfl rfl (by omega) (hsz _ (by omega)) ?_
            refine qx_callV (As := [_, _, _]) (rest := _) d_QM_operate_142 lk_QM_159 y_QM_copy v_QM_copy rfl rfl rfl (by decide) rfl rfl rfl rfl (by decide) (by decide) (ct_QM_copy hR (dep - 2 + 1) (dep - 2) (sz (dep - 2)) (sz (dep - 2 + 1)) (by omega) (by omega) (by omega) (by omega) (hsz _ (by omega))) ?_
            rintro _ _ _ ⟨rfl, rfl, rfl⟩
            refine qx_aload_n d_QM_operate_145 rfl rfl ?_
            refine qx_getR d_QM_operate_146 fR_QM_21 rfl rfl (congrFun hR 16) ?_
            refine qx_bipushN (v := 24) d_QM_operate_149 rfl ?_
            refine qx_iload d_QM_operate_151 rfl ?_
            refine qx_imulN d_QM_operate_153 ?_
            refine qx_iload d_QM_operate_154 rfl ?_
            refine qx_iaddN d_QM_operate_156 ?_
            refine qx_iconstN (v := 1) d_QM_operate_157 rfl ?_
            refine qx_isubN d_QM_operate_158 (by omega) ?_
            refine qx_iload_n d_QM_operate_159 rfl rfl ?_
            refine qx_iast d_QM_operate_160 rfl rfl rfl rfl (by omega) ?_
            refine qx_aload_n d_QM_operate_161 rfl rfl ?_
            refine qx_getR d_QM_operate_162 fR_QM_27 rfl rfl (congrFun hR 18) ?_
            refine qx_iload d_QM_operate_165 rfl ?_
            refine qx_iload d_QM_operate_167 rfl ?_
            refine qx_iast d_QM_operate_169 rfl rfl rfl rfl (by omega) ?_
            refine qx_aload_n d_QM_operate_170 rfl rfl ?_
            refine qx_getR d_QM_operate_171 fR_QM_30 rfl rfl (congrFun hR 19) ?_
            refine qx_iload d_QM_operate_174 rfl ?_
            refine qx_iload_n d_QM_operate_176 rfl rfl ?_
            refine qx_iconstN (v := 3) d_QM_operate_177 rfl ?_
            refine qx_icmp_leN (t := 185) d_QM_operate_178 rfl (by omega) (by omega) (fun c178 => ?_) (fun c178 => ?_)
            · refine qx_iconstN (v := 0) d_QM_operate_185 rfl ?_
              refine qx_zast d_QM_operate_186 rfl rfl rfl rfl (by omega) rfl ?_
              refine qx_aload_n d_QM_operate_187 rfl rfl ?_
              refine qx_iload d_QM_operate_188 rfl ?_
              refine qx_iconstN (v := 1) d_QM_operate_190 rfl ?_
              refine qx_iaddN d_QM_operate_191 ?_
              refine qx_putI d_QM_operate_192 fI_QM_138 rfl rfl ⟨rfl, rfl⟩ ?_
              refine qx_iconstN (v := 1) d_QM_operate_195 rfl ?_
              exact qx_iret d_QM_operate_196 rfl rfl (by omega) (by omega) (by first | (rw [decide_eq_false (Nat.not_le.mpr c54)]; exact ⟨rfl, rfl, rfl⟩) | (have q1 : dep - 1 = dep - 2 + 1 := (by omega); rw [q1]; first | (rw [decide_eq_true c54, decide_eq_true c34, q_beq_f e0]; exact ⟨rfl, rfl, rfl⟩) | (rw [decide_eq_true c54, decide_eq_true c34, q_beq_t e0, q_beq_f e1]; exact ⟨rfl, rfl, rfl⟩) | (rw [decide_eq_true c54, decide_eq_true c34, q_beq_t e0, q_beq_t e1, decide_eq_false (Nat.not_le.mpr c118)]; exact ⟨rfl, rfl, rfl⟩) | (rw [decide_eq_true c54, decide_eq_true c34, q_beq_t e0, q_beq_t e1, decide_eq_true c118, decide_eq_true c178]; exact ⟨rfl, rfl, rfl⟩) | (rw [decide_eq_true c54, decide_eq_true c34, q_beq_t e0, q_beq_t e1, decide_eq_true c118, decide_eq_false (Nat.not_lt.mpr c178)]; exact ⟨rfl, rfl, rfl⟩) | (rw [decide_eq_true c54, decide_eq_false (Nat.not_le.mpr c34), q_beq_f e0]; exact ⟨rfl, rfl, rfl⟩) | (rw [decide_eq_true c54, decide_eq_false (Nat.not_le.mpr c34), q_beq_t e0, q_beq_f e1]; exact ⟨rfl, rfl, rfl⟩) | (rw [decide_eq_true c54, decide_eq_false (Nat.not_le.mpr c34), q_beq_t e0, q_beq_t e1, decide_eq_false (Nat.not_le.mpr c118)]; exact ⟨rfl, rfl, rfl⟩) | (rw [decide_eq_true c54, decide_eq_false (Nat.not_le.mpr c34), q_beq_t e0, q_beq_t e1, decide_eq_true c118, decide_eq_true c178]; exact ⟨rfl, rfl, rfl⟩) | (rw [decide_eq_true c54, decide_eq_false (Nat.not_le.mpr c34), q_beq_t e0, q_beq_t e1, decide_eq_true c118, decide_eq_false (Nat.not_lt.mpr c178)]; exact ⟨rfl, rfl, rfl⟩)))
            · refine qx_iconstN (v := 1) d_QM_operate_181 rfl ?_
              refine qx_goto (t := 186) d_QM_operate_182 rfl ?_
              refine qx_zast d_QM_operate_186 rfl rfl rfl rfl (by omega) rfl ?_
              refine qx_aload_n d_QM_operate_187 rfl rfl ?_
              refine qx_iload d_QM_operate_188 rfl ?_
              refine qx_iconstN (v := 1) d_QM_operate_190 rfl ?_
              refine qx_iaddN d_QM_operate_191 ?_
              refine qx_putI d_QM_operate_192 fI_QM_138 rfl rfl ⟨rfl, rfl⟩ ?_
              refine qx_iconstN (v := 1) d_QM_operate_195 rfl ?_
              exact qx_iret d_QM_operate_196 rfl rfl (by omega) (by omega) (by first | (rw [decide_eq_false (Nat.not_le.mpr c54)]; exact ⟨rfl, rfl, rfl⟩) | (have q1 : dep - 1 = dep - 2 + 1 := (by omega); rw [q1]; first | (rw [decide_eq_true c54, decide_eq_true c34, q_beq_f e0]; exact ⟨rfl, rfl, rfl⟩) | (rw [decide_eq_true c54, decide_eq_true c34, q_beq_t e0, q_beq_f e1]; exact ⟨rfl, rfl, rfl⟩) | (rw [decide_eq_true c54, decide_eq_true c34, q_beq_t e0, q_beq_t e1, decide_eq_false (Nat.not_le.mpr c118)]; exact ⟨rfl, rfl, rfl⟩) | (rw [decide_eq_true c54, decide_eq_true c34, q_beq_t e0, q_beq_t e1, decide_eq_true c118, decide_eq_true c178]; exact ⟨rfl, rfl, rfl⟩) | (rw [decide_eq_true c54, decide_eq_true c34, q_beq_t e0, q_beq_t e1, decide_eq_true c118, decide_eq_false (Nat.not_lt.mpr c178)]; exact ⟨rfl, rfl, rfl⟩) | (rw [decide_eq_true c54, decide_eq_false (Nat.not_le.mpr c34), q_beq_f e0]; exact ⟨rfl, rfl, rfl⟩) | (rw [decide_eq_true c54, decide_eq_false (Nat.not_le.mpr c34), q_beq_t e0, q_beq_f e1]; exact ⟨rfl, rfl, rfl⟩) | (rw [decide_eq_true c54, decide_eq_false (Nat.not_le.mpr c34), q_beq_t e0, q_beq_t e1, decide_eq_false (Nat.not_le.mpr c118)]; exact ⟨rfl, rfl, rfl⟩) | (rw [decide_eq_true c54, decide_eq_false (Nat.not_le.mpr c34), q_beq_t e0, q_beq_t e1, decide_eq_true c118, decide_eq_true c178]; exact ⟨rfl, rfl, rfl⟩) | (rw [decide_eq_true c54, decide_eq_false (Nat.not_le.mpr c34), q_beq_t e0, q_beq_t e1, decide_eq_true c118, decide_eq_false (Nat.not_lt.mpr c178)]; exact ⟨rfl, rfl, rfl⟩)))
          · refine qx_iconstN (v := 0) d_QM_operate_121 rfl ?_
            exact qx_iret d_QM_operate_122 rfl rfl (by omega) (by omega) (by first | (rw [decide_eq_false (Nat.not_le.mpr c54)]; exact ⟨rfl, rfl, rfl⟩) | (have q1 : dep - 1 = dep - 2 + 1 := (by omega); rw [q1]; first | (rw [decide_eq_true c54, decide_eq_true c34, q_beq_f e0]; exact ⟨rfl, rfl, rfl⟩) | (rw [decide_eq_true c54, decide_eq_true c34, q_beq_t e0, q_beq_f e1]; exact ⟨rfl, rfl, rfl⟩) | (rw [decide_eq_true c54, decide_eq_true c34, q_beq_t e0, q_beq_t e1, decide_eq_false (Nat.not_le.mpr c118)]; exact ⟨rfl, rfl, rfl⟩) | (rw [decide_eq_true c54, decide_eq_true c34, q_beq_t e0, q_beq_t e1, decide_eq_true c118, decide_eq_true c178]; exact ⟨rfl, rfl, rfl⟩) | (rw [decide_eq_true c54, decide_eq_true c34, q_beq_t e0, q_beq_t e1, decide_eq_true c118, decide_eq_false (Nat.not_lt.mpr c178)]; exact ⟨rfl, rfl, rfl⟩) | (rw [decide_eq_true c54, decide_eq_false (Nat.not_le.mpr c34), q_beq_f e0]; exact ⟨rfl, rfl, rfl⟩) | (rw [decide_eq_true c54, decide_eq_false (Nat.not_le.mpr c34), q_beq_t e0, q_beq_f e1]; exact ⟨rfl, rfl, rfl⟩) | (rw [decide_eq_true c54, decide_eq_false (Nat.not_le.mpr c34), q_beq_t e0, q_beq_t e1, decide_eq_false (Nat.not_le.mpr c118)]; exact ⟨rfl, rfl, rfl⟩) | (rw [decide_eq_true c54, decide_eq_false (Nat.not_le.mpr c34), q_beq_t e0, q_beq_t e1, decide_eq_true c118, decide_eq_true c178]; exact ⟨rfl, rfl, rfl⟩) | (rw [decide_eq_true c54, decide_eq_false (Nat.not_le.mpr c34), q_beq_t e0, q_beq_t e1, decide_eq_true c118, decide_eq_false (Nat.not_lt.mpr c178)]; exact ⟨rfl, rfl, rfl⟩)))
        · refine qx_iconstN (v := 0) d_QM_operate_94 rfl ?_
          exact qx_iret d_QM_operate_95 rfl rfl (by omega) (by omega) (by first | (rw [decide_eq_false (Nat.not_le.mpr c54)]; exact ⟨rfl, rfl, rfl⟩) | (have q1 : dep - 1 = dep - 2 + 1 := (by omega); rw [q1]; first | (rw [decide_eq_true c54, decide_eq_true c34, q_beq_f e0]; exact ⟨rfl, rfl, rfl⟩) | (rw [decide_eq_true c54, decide_eq_true c34, q_beq_t e0, q_beq_f e1]; exact ⟨rfl, rfl, rfl⟩) | (rw [decide_eq_true c54, decide_eq_true c34, q_beq_t e0, q_beq_t e1, decide_eq_false (Nat.not_le.mpr c118)]; exact ⟨rfl, rfl, rfl⟩) | (rw [decide_eq_true c54, decide_eq_true c34, q_beq_t e0, q_beq_t e1, decide_eq_true c118, decide_eq_true c178]; exact ⟨rfl, rfl, rfl⟩) | (rw [decide_eq_true c54, decide_eq_true c34, q_beq_t e0, q_beq_t e1, decide_eq_true c118, decide_eq_false (Nat.not_lt.mpr c178)]; exact ⟨rfl, rfl, rfl⟩) | (rw [decide_eq_true c54, decide_eq_false (Nat.not_le.mpr c34), q_beq_f e0]; exact ⟨rfl, rfl, rfl⟩) | (rw [decide_eq_true c54, decide_eq_false (Nat.not_le.mpr c34), q_beq_t e0, q_beq_f e1]; exact ⟨rfl, rfl, rfl⟩) | (rw [decide_eq_true c54, decide_eq_false (Nat.not_le.mpr c34), q_beq_t e0, q_beq_t e1, decide_eq_false (Nat.not_le.mpr c118)]; exact ⟨rfl, rfl, rfl⟩) | (rw [decide_eq_true c54, decide_eq_false (Nat.not_le.mpr c34), q_beq_t e0, q_beq_t e1, decide_eq_true c118, decide_eq_true c178]; exact ⟨rfl, rfl, rfl⟩) | (rw [decide_eq_true c54, decide_eq_false (Nat.not_le.mpr c34), q_beq_t e0, q_beq_t e1, decide_eq_true c118, decide_eq_false (Nat.not_lt.mpr c178)]; exact ⟨rfl, rfl, rfl⟩)))
      · refine qx_iconstN (v := 0) d_QM_operate_94 rfl ?_
        exact qx_iret d_QM_operate_95 rfl rfl (by omega) (by omega) (by first | (rw [decide_eq_false (Nat.not_le.mpr c54)]; exact ⟨rfl, rfl, rfl⟩) | (have q1 : dep - 1 = dep - 2 + 1 := (by omega); rw [q1]; first | (rw [decide_eq_true c54, decide_eq_true c34, q_beq_f e0]; exact ⟨rfl, rfl, rfl⟩) | (rw [decide_eq_true c54, decide_eq_true c34, q_beq_t e0, q_beq_f e1]; exact ⟨rfl, rfl, rfl⟩) | (rw [decide_eq_true c54, decide_eq_true c34, q_beq_t e0, q_beq_t e1, decide_eq_false (Nat.not_le.mpr c118)]; exact ⟨rfl, rfl, rfl⟩) | (rw [decide_eq_true c54, decide_eq_true c34, q_beq_t e0, q_beq_t e1, decide_eq_true c118, decide_eq_true c178]; exact ⟨rfl, rfl, rfl⟩) | (rw [decide_eq_true c54, decide_eq_true c34, q_beq_t e0, q_beq_t e1, decide_eq_true c118, decide_eq_false (Nat.not_lt.mpr c178)]; exact ⟨rfl, rfl, rfl⟩) | (rw [decide_eq_true c54, decide_eq_false (Nat.not_le.mpr c34), q_beq_f e0]; exact ⟨rfl, rfl, rfl⟩) | (rw [decide_eq_true c54, decide_eq_false (Nat.not_le.mpr c34), q_beq_t e0, q_beq_f e1]; exact ⟨rfl, rfl, rfl⟩) | (rw [decide_eq_true c54, decide_eq_false (Nat.not_le.mpr c34), q_beq_t e0, q_beq_t e1, decide_eq_false (Nat.not_le.mpr c118)]; exact ⟨rfl, rfl, rfl⟩) | (rw [decide_eq_true c54, decide_eq_false (Nat.not_le.mpr c34), q_beq_t e0, q_beq_t e1, decide_eq_true c118, decide_eq_true c178]; exact ⟨rfl, rfl, rfl⟩) | (rw [decide_eq_true c54, decide_eq_false (Nat.not_le.mpr c34), q_beq_t e0, q_beq_t e1, decide_eq_true c118, decide_eq_false (Nat.not_lt.mpr c178)]; exact ⟨rfl, rfl, rfl⟩)))
    · refine qx_iconstN (v := 0) d_QM_operate_57 rfl ?_
      exact qx_iret d_QM_operate_58 rfl rfl (by omega) (by omega) (by first | (rw [decide_eq_false (Nat.not_le.mpr c54)]; exact ⟨rfl, rfl, rfl⟩) | (have q1 : dep - 1 = dep - 2 + 1 := (by omega); rw [q1]; first | (rw [decide_eq_true c54, decide_eq_true c34, q_beq_f e0]; exact ⟨rfl, rfl, rfl⟩) | (rw [decide_eq_true c54, decide_eq_true c34, q_beq_t e0, q_beq_f e1]; exact ⟨rfl, rfl, rfl⟩) | (rw [decide_eq_true c54, decide_eq_true c34, q_beq_t e0, q_beq_t e1, decide_eq_false (Nat.not_le.mpr c118)]; exact ⟨rfl, rfl, rfl⟩) | (rw [decide_eq_true c54, decide_eq_true c34, q_beq_t e0, q_beq_t e1, decide_eq_true c118, decide_eq_true c178]; exact ⟨rfl, rfl, rfl⟩) | (rw [decide_eq_true c54, decide_eq_true c34, q_beq_t e0, q_beq_t e1, decide_eq_true c118, decide_eq_false (Nat.not_lt.mpr c178)]; exact ⟨rfl, rfl, rfl⟩) | (rw [decide_eq_true c54, decide_eq_false (Nat.not_le.mpr c34), q_beq_f e0]; exact ⟨rfl, rfl, rfl⟩) | (rw [decide_eq_true c54, decide_eq_false (Nat.not_le.mpr c34), q_beq_t e0, q_beq_f e1]; exact ⟨rfl, rfl, rfl⟩) | (rw [decide_eq_true c54, decide_eq_false (Nat.not_le.mpr c34), q_beq_t e0, q_beq_t e1, decide_eq_false (Nat.not_le.mpr c118)]; exact ⟨rfl, rfl, rfl⟩) | (rw [decide_eq_true c54, decide_eq_false (Nat.not_le.mpr c34), q_beq_t e0, q_beq_t e1, decide_eq_true c118, decide_eq_true c178]; exact ⟨rfl, rfl, rfl⟩) | (rw [decide_eq_true c54, decide_eq_false (Nat.not_le.mpr c34), q_beq_t e0, q_beq_t e1, decide_eq_true c118, decide_eq_false (Nat.not_lt.mpr c178)]; exact ⟨rfl, rfl, rfl⟩)))
set_option maxRecDepth 100000 in
set_option maxHeartbeats 4000000 in
theorem ct_QM_operate_one {h : qH} (op : Nat) (ho8 : 8 ≤ op) (ho9 : op ≤ 9) (hR : h.2.2 122 = qRQM) (bg on : Bool) (hbeg : h.1 122 3 = b2i bg) (hon : h.1 122 37 = b2i on) (hbo : (bg && !on) = true) (dep : Nat) (h8 : dep ≤ 8) (hdep : h.1 122 13 = nI dep) (tr : Nat → Bool) (sz : Nat → Nat) (htr : ∀ i, i < dep → h.1 129 i = b2i (tr i)) (hsz : ∀ i, i < dep → h.1 128 i = nI (sz i)) (hsz24 : ∀ i, i < dep → sz i ≤ 24) : qT mi_QM_operate 1 0 0 [.ref 122, .int (nI op)] h NN (fun v1 h1 n1 => v1 = some (.int (b2i (decide (1 ≤ dep) && ((tr (dep - 1) == decide (op = 8)) && decide (1 + sz (dep - 1) ≤ 24))))) ∧ h1 = cond (decide (1 ≤ dep) && ((tr (dep - 1) == decide (op = 8)) && decide (1 + sz (dep - 1) ≤ 24))) (qpI (qpI (qpI (qpI h 126 (24 * (dep - 1) + (1 + sz (dep - 1)) - 1) (nI op)) 128 (dep - 1) (nI (1 + sz (dep - 1)))) 129 (dep - 1) (nI 1)) 122 13 (nI ((dep - 1) + 1))) h ∧ n1 = NN) := by
  refine qT.of (lv0 := [_, _, _, _, _, _, _]) (by decide +kernel) (fun _ _ => Nat.le_of_ble_eq_true rfl) rfl ?_
  refine qx_aload_n d_QM_operate_0 rfl rfl ?_
  refine qx_callV (As := []) (rest := _) d_QM_operate_1 lk_QM_147 y_QM_open v_QM_open rfl rfl rfl (by decide) rfl rfl rfl rfl (by decide) (by decide) (ct_QM_open bg on hbeg hon) ?_
  rintro _ _ _ ⟨rfl, rfl, rfl⟩
  refine qx_if_eqB (t := 17) d_QM_operate_4 rfl (fun c4 => absurd hbo (by rw [c4]; decide)) (fun c4 => ?_)
  refine qx_iload_n d_QM_operate_7 rfl rfl ?_
  refine qx_iconstN (v := 0) d_QM_operate_8 rfl ?_
  refine qx_bipushN (v := 9) d_QM_operate_9 rfl ?_
  refine qx_callS (As := [_, _, _]) (rest := _) d_QM_operate_11 lk_QM_103 y_QM_within s_QM_within rfl rfl rfl rfl (by decide) (by decide) (ct_QM_within _ _ _) ?_
  rintro _ _ _ ⟨rfl, rfl, rfl⟩
  refine qx_if_neB (t := 19) d_QM_operate_14 rfl (fun c14 => ?_) (fun c14 => absurd (⟨nI_le (by omega) (by omega), nI_le (by omega) (by omega)⟩ : nI 0 ≤ nI op ∧ nI op ≤ nI 9) (of_decide_eq_false c14))
  refine qx_iload_n d_QM_operate_19 rfl rfl ?_
  refine qx_bipushN (v := 8) d_QM_operate_20 rfl ?_
  refine qx_icmp_geN (t := 29) d_QM_operate_22 rfl (by omega) (by omega) (fun c22 => ?_) (fun c22 => absurd c22 (by omega))
  refine qx_iconstN (v := 1) d_QM_operate_29 rfl ?_
  refine qx_istore_n (lv1 := [_, _, _, _, _, _, _]) d_QM_operate_30 rfl (by decide) rfl ?_
  refine qx_iload_n d_QM_operate_31 rfl rfl ?_
  refine qx_bipushN (v := 6) d_QM_operate_32 rfl ?_
  refine qx_icmp_ltN (t := 47) d_QM_operate_34 rfl (by omega) (by omega) (fun c34 => absurd c34 (by omega)) (fun c34 => ?_)
  refine qx_iload_n d_QM_operate_37 rfl rfl ?_
  refine qx_bipushN (v := 8) d_QM_operate_38 rfl ?_
  refine qx_icmp_gtN (t := 47) d_QM_operate_40 rfl (by omega) (by omega) (fun c40 => ?_) (fun c40 => ?_)
  · refine qx_iconst (v := b2i false) d_QM_operate_47 rfl ?_
    refine qx_istore_n (lv1 := [_, _, _, _, _, _, _]) d_QM_operate_48 rfl (by decide) rfl ?_
    refine qx_aload_n d_QM_operate_49 rfl rfl ?_
    refine qx_getI d_QM_operate_50 fI_QM_138 rfl rfl hdep ?_
    refine qx_iload_n d_QM_operate_53 rfl rfl ?_
    refine qx_icmp_geN (t := 59) d_QM_operate_54 rfl (by omega) (by omega) (fun c54 => ?_) (fun c54 => ?_)
    · refine qx_aload_n d_QM_operate_59 rfl rfl ?_
      refine qx_getI d_QM_operate_60 fI_QM_138 rfl rfl hdep ?_
      refine qx_iload_n d_QM_operate_63 rfl rfl ?_
      refine qx_isubN d_QM_operate_64 (by omega) ?_
      refine qx_istore (lv1 := [_, _, _, _, _, _, _]) d_QM_operate_65 (by decide) rfl ?_
      refine qx_iconstN (v := 1) d_QM_operate_67 rfl ?_
      refine qx_istore (lv1 := [_, _, _, _, _, _, _]) d_QM_operate_68 (by decide) rfl ?_
      refine qx_iload d_QM_operate_70 rfl ?_
      refine qx_istore (lv1 := [_, _, _, _, _, _, _]) d_QM_operate_72 (by decide) rfl ?_
      refine qx_iload d_QM_operate_74 rfl ?_
      refine qx_aload_n d_QM_operate_76 rfl rfl ?_
      refine qx_getI d_QM_operate_77 fI_QM_138 rfl rfl hdep ?_
      refine qx_icmp_geN (t := 114) d_QM_operate_80 rfl (by omega) (by omega) (fun c80 => absurd c80 (by omega)) (fun c80 => ?_)
      refine qx_aload_n d_QM_operate_83 rfl rfl ?_
      refine qx_getR d_QM_operate_84 fR_QM_30 rfl rfl (congrFun hR 19) ?_
      refine qx_iload d_QM_operate_87 rfl ?_
      refine qx_zald d_QM_operate_89 rfl rfl rfl rfl (by omega) (htr _ (by omega)) ?_
      refine qx_iload_n d_QM_operate_90 rfl rfl ?_
      refine qx_icmp_eqE (t := 96) d_QM_operate_91 rfl (fun e0 => ?_) (fun e0 => ?_)
      · refine qx_iload d_QM_operate_96 rfl ?_
        refine qx_aload_n d_QM_operate_98 rfl rfl ?_
        refine qx_getR d_QM_operate_99 fR_QM_27 rfl rfl (congrFun hR 18) ?_
        refine qx_iload d_QM_operate_102 rfl ?_
        refine qx_iald d_QM_operate_104 rfl rfl rfl rfl (by omega) (hsz _ (by omega)) ?_
        refine qx_iaddN d_QM_operate_105 ?_
        refine qx_istore (lv1 := [_, _, _, _, _, _, _]) d_QM_operate_106 (by decide) rfl ?_
        refine qx_iincN (w := 1) (lv1 := [_, _, _, _, _, _, _]) d_QM_operate_108 rfl rfl (by decide) rfl ?_
        refine qx_goto (t := 74) d_QM_operate_111 rfl ?_
        refine qx_iload d_QM_operate_74 rfl ?_
        refine qx_aload_n d_QM_operate_76 rfl rfl ?_
        refine qx_getI d_QM_operate_77 fI_QM_138 rfl rfl hdep ?_
        refine qx_icmp_geN (t := 114) d_QM_operate_80 rfl (by omega) (by omega) (fun c80 => ?_) (fun c80 => absurd c80 (by omega))
        have z0 := hsz24 (dep - 1) (by omega)
        refine qx_iload d_QM_operate_114 rfl ?_
        refine qx_bipushN (v := 24) d_QM_operate_116 rfl ?_
        refine qx_icmp_leN (t := 123) d_QM_operate_118 rfl (by omega) (by omega) (fun c118 => ?_) (fun c118 => ?_)
        · refine qx_iload_n d_QM_operate_123 rfl rfl ?_
          refine qx_iconstN (v := 2) d_QM_operate_124 rfl ?_
          refine qx_icmp_neN (t := 145) d_QM_operate_125 rfl (by omega) (by omega) (fun c125 => ?_) (fun c125 => absurd c125 (by decide))
          refine qx_aload_n d_QM_operate_145 rfl rfl ?_
          refine qx_getR d_QM_operate_146 fR_QM_21 rfl rfl (congrFun hR 16) ?_
          refine qx_bipushN (v := 24) d_QM_operate_149 rfl ?_
          refine qx_iload d_QM_operate_151 rfl ?_
          refine qx_imulN d_QM_operate_153 ?_
          refine qx_iload d_QM_operate_154 rfl ?_
          refine qx_iaddN d_QM_operate_156 ?_
          refine qx_iconstN (v := 1) d_QM_operate_157 rfl ?_
          refine qx_isubN d_QM_operate_158 (by omega) ?_
          refine qx_iload_n d_QM_operate_159 rfl rfl ?_
          refine qx_iast d_QM_operate_160 rfl rfl rfl rfl (by omega) ?_
          refine qx_aload_n d_QM_operate_161 rfl rfl ?_
          refine qx_getR d_QM_operate_162 fR_QM_27 rfl rfl (congrFun hR 18) ?_
          refine qx_iload d_QM_operate_165 rfl ?_
          refine qx_iload d_QM_operate_167 rfl ?_
          refine qx_iast d_QM_operate_169 rfl rfl rfl rfl (by omega) ?_
          refine qx_aload_n d_QM_operate_170 rfl rfl ?_
          refine qx_getR d_QM_operate_171 fR_QM_30 rfl rfl (congrFun hR 19) ?_
          refine qx_iload d_QM_operate_174 rfl ?_
          refine qx_iload_n d_QM_operate_176 rfl rfl ?_
          refine qx_iconstN (v := 3) d_QM_operate_177 rfl ?_
          refine qx_icmp_leN (t := 185) d_QM_operate_178 rfl (by omega) (by omega) (fun c178 => absurd c178 (by omega)) (fun c178 => ?_)
          refine qx_iconstN (v := 1) d_QM_operate_181 rfl ?_
          refine qx_goto (t := 186) d_QM_operate_182 rfl ?_
          refine qx_zast d_QM_operate_186 rfl rfl rfl rfl (by omega) rfl ?_
          refine qx_aload_n d_QM_operate_187 rfl rfl ?_
          refine qx_iload d_QM_operate_188 rfl ?_
          refine qx_iconstN (v := 1) d_QM_operate_190 rfl ?_
          refine qx_iaddN d_QM_operate_191 ?_
          refine qx_putI d_QM_operate_192 fI_QM_138 rfl rfl ⟨rfl, rfl⟩ ?_
          refine qx_iconstN (v := 1) d_QM_operate_195 rfl ?_
          exact qx_iret d_QM_operate_196 rfl rfl (by omega) (by omega) (by first | (rw [decide_eq_false (Nat.not_le.mpr c54)]; exact ⟨rfl, rfl, rfl⟩) | (rw [decide_eq_true c54, decide_eq_true (show op = 8 by omega), q_beq_f e0]; exact ⟨rfl, rfl, rfl⟩) | (rw [decide_eq_true c54, decide_eq_true (show op = 8 by omega), q_beq_t e0, decide_eq_false (Nat.not_le.mpr c118)]; exact ⟨rfl, rfl, rfl⟩) | (rw [decide_eq_true c54, decide_eq_true (show op = 8 by omega), q_beq_t e0, decide_eq_true c118]; exact ⟨rfl, rfl, rfl⟩) | (rw [decide_eq_true c54, decide_eq_false (show ¬ op = 8 by omega), q_beq_f e0]; exact ⟨rfl, rfl, rfl⟩) | (rw [decide_eq_true c54, decide_eq_false (show ¬ op = 8 by omega), q_beq_t e0, decide_eq_false (Nat.not_le.mpr c118)]; exact ⟨rfl, rfl, rfl⟩) | (rw [decide_eq_true c54, decide_eq_false (show ¬ op = 8 by omega), q_beq_t e0, decide_eq_true c118]; exact ⟨rfl, rfl, rfl⟩))
        · refine qx_iconstN (v := 0) d_QM_operate_121 rfl ?_
          exact qx_iret d_QM_operate_122 rfl rfl (by omega) (by omega) (by first | (rw [decide_eq_false (Nat.not_le.mpr c54)]; exact ⟨rfl, rfl, rfl⟩) | (rw [decide_eq_true c54, decide_eq_true (show op = 8 by omega), q_beq_f e0]; exact ⟨rfl, rfl, rfl⟩) | (rw [decide_eq_true c54, decide_eq_true (show op = 8 by omega), q_beq_t e0, decide_eq_false (Nat.not_le.mpr c118)]; exact ⟨rfl, rfl, rfl⟩) | (rw [decide_eq_true c54, decide_eq_true (show op = 8 by omega), q_beq_t e0, decide_eq_true c118]; exact ⟨rfl, rfl, rfl⟩) | (rw [decide_eq_true c54, decide_eq_false (show ¬ op = 8 by omega), q_beq_f e0]; exact ⟨rfl, rfl, rfl⟩) | (rw [decide_eq_true c54, decide_eq_false (show ¬ op = 8 by omega), q_beq_t e0, decide_eq_false (Nat.not_le.mpr c118)]; exact ⟨rfl, rfl, rfl⟩) | (rw [decide_eq_true c54, decide_eq_false (show ¬ op = 8 by omega), q_beq_t e0, decide_eq_true c118]; exact ⟨rfl, rfl, rfl⟩))
      · refine qx_iconstN (v := 0) d_QM_operate_94 rfl ?_
        exact qx_iret d_QM_operate_95 rfl rfl (by omega) (by omega) (by first | (rw [decide_eq_false (Nat.not_le.mpr c54)]; exact ⟨rfl, rfl, rfl⟩) | (rw [decide_eq_true c54, decide_eq_true (show op = 8 by omega), q_beq_f e0]; exact ⟨rfl, rfl, rfl⟩) | (rw [decide_eq_true c54, decide_eq_true (show op = 8 by omega), q_beq_t e0, decide_eq_false (Nat.not_le.mpr c118)]; exact ⟨rfl, rfl, rfl⟩) | (rw [decide_eq_true c54, decide_eq_true (show op = 8 by omega), q_beq_t e0, decide_eq_true c118]; exact ⟨rfl, rfl, rfl⟩) | (rw [decide_eq_true c54, decide_eq_false (show ¬ op = 8 by omega), q_beq_f e0]; exact ⟨rfl, rfl, rfl⟩) | (rw [decide_eq_true c54, decide_eq_false (show ¬ op = 8 by omega), q_beq_t e0, decide_eq_false (Nat.not_le.mpr c118)]; exact ⟨rfl, rfl, rfl⟩) | (rw [decide_eq_true c54, decide_eq_false (show ¬ op = 8 by omega), q_beq_t e0, decide_eq_true c118]; exact ⟨rfl, rfl, rfl⟩))
    · refine qx_iconstN (v := 0) d_QM_operate_57 rfl ?_
      exact qx_iret d_QM_operate_58 rfl rfl (by omega) (by omega) (by first | (rw [decide_eq_false (Nat.not_le.mpr c54)]; exact ⟨rfl, rfl, rfl⟩) | (rw [decide_eq_true c54, decide_eq_true (show op = 8 by omega), q_beq_f e0]; exact ⟨rfl, rfl, rfl⟩) | (rw [decide_eq_true c54, decide_eq_true (show op = 8 by omega), q_beq_t e0, decide_eq_false (Nat.not_le.mpr c118)]; exact ⟨rfl, rfl, rfl⟩) | (rw [decide_eq_true c54, decide_eq_true (show op = 8 by omega), q_beq_t e0, decide_eq_true c118]; exact ⟨rfl, rfl, rfl⟩) | (rw [decide_eq_true c54, decide_eq_false (show ¬ op = 8 by omega), q_beq_f e0]; exact ⟨rfl, rfl, rfl⟩) | (rw [decide_eq_true c54, decide_eq_false (show ¬ op = 8 by omega), q_beq_t e0, decide_eq_false (Nat.not_le.mpr c118)]; exact ⟨rfl, rfl, rfl⟩) | (rw [decide_eq_true c54, decide_eq_false (show ¬ op = 8 by omega), q_beq_t e0, decide_eq_true c118]; exact ⟨rfl, rfl, rfl⟩))
  · refine qx_iconst (v := b2i true) d_QM_operate_43 rfl ?_
    refine qx_goto (t := 48) d_QM_operate_44 rfl ?_
    refine qx_istore_n (lv1 := [_, _, _, _, _, _, _]) d_QM_operate_48 rfl (by decide) rfl ?_
    refine qx_aload_n d_QM_operate_49 rfl rfl ?_
    refine qx_getI d_QM_operate_50 fI_QM_138 rfl rfl hdep ?_
    refine qx_iload_n d_QM_operate_53 rfl rfl ?_
    refine qx_icmp_geN (t := 59) d_QM_operate_54 rfl (by omega) (by omega) (fun c54 => ?_) (fun c54 => ?_)
    · refine qx_aload_n d_QM_operate_59 rfl rfl ?_
      refine qx_getI d_QM_operate_60 fI_QM_138 rfl rfl hdep ?_
      refine qx_iload_n d_QM_operate_63 rfl rfl ?_
      refine qx_isubN d_QM_operate_64 (by omega) ?_
      refine qx_istore (lv1 := [_, _, _, _, _, _, _]) d_QM_operate_65 (by decide) rfl ?_
      refine qx_iconstN (v := 1) d_QM_operate_67 rfl ?_
      refine qx_istore (lv1 := [_, _, _, _, _, _, _]) d_QM_operate_68 (by decide) rfl ?_
      refine qx_iload d_QM_operate_70 rfl ?_
      refine qx_istore (lv1 := [_, _, _, _, _, _, _]) d_QM_operate_72 (by decide) rfl ?_
      refine qx_iload d_QM_operate_74 rfl ?_
      refine qx_aload_n d_QM_operate_76 rfl rfl ?_
      refine qx_getI d_QM_operate_77 fI_QM_138 rfl rfl hdep ?_
      refine qx_icmp_geN (t := 114) d_QM_operate_80 rfl (by omega) (by omega) (fun c80 => absurd c80 (by omega)) (fun c80 => ?_)
      refine qx_aload_n d_QM_operate_83 rfl rfl ?_
      refine qx_getR d_QM_operate_84 fR_QM_30 rfl rfl (congrFun hR 19) ?_
      refine qx_iload d_QM_operate_87 rfl ?_
      refine qx_zald d_QM_operate_89 rfl rfl rfl rfl (by omega) (htr _ (by omega)) ?_
      refine qx_iload_n d_QM_operate_90 rfl rfl ?_
      refine qx_icmp_eqE (t := 96) d_QM_operate_91 rfl (fun e0 => ?_) (fun e0 => ?_)
      · refine qx_iload d_QM_operate_96 rfl ?_
        refine qx_aload_n d_QM_operate_98 rfl rfl ?_
        refine qx_getR d_QM_operate_99 fR_QM_27 rfl rfl (congrFun hR 18) ?_
        refine qx_iload d_QM_operate_102 rfl ?_
        refine qx_iald d_QM_operate_104 rfl rfl rfl rfl (by omega) (hsz _ (by omega)) ?_
        refine qx_iaddN d_QM_operate_105 ?_
        refine qx_istore (lv1 := [_, _, _, _, _, _, _]) d_QM_operate_106 (by decide) rfl ?_
        refine qx_iincN (w := 1) (lv1 := [_, _, _, _, _, _, _]) d_QM_operate_108 rfl rfl (by decide) rfl ?_
        refine qx_goto (t := 74) d_QM_operate_111 rfl ?_
        refine qx_iload d_QM_operate_74 rfl ?_
        refine qx_aload_n d_QM_operate_76 rfl rfl ?_
        refine qx_getI d_QM_operate_77 fI_QM_138 rfl rfl hdep ?_
        refine qx_icmp_geN (t := 114) d_QM_operate_80 rfl (by omega) (by omega) (fun c80 => ?_) (fun c80 => absurd c80 (by omega))
        have z0 := hsz24 (dep - 1) (by omega)
        refine qx_iload d_QM_operate_114 rfl ?_
        refine qx_bipushN (v := 24) d_QM_operate_116 rfl ?_
        refine qx_icmp_leN (t := 123) d_QM_operate_118 rfl (by omega) (by omega) (fun c118 => ?_) (fun c118 => ?_)
        · refine qx_iload_n d_QM_operate_123 rfl rfl ?_
          refine qx_iconstN (v := 2) d_QM_operate_124 rfl ?_
          refine qx_icmp_neN (t := 145) d_QM_operate_125 rfl (by omega) (by omega) (fun c125 => ?_) (fun c125 => absurd c125 (by decide))
          refine qx_aload_n d_QM_operate_145 rfl rfl ?_
          refine qx_getR d_QM_operate_146 fR_QM_21 rfl rfl (congrFun hR 16) ?_
          refine qx_bipushN (v := 24) d_QM_operate_149 rfl ?_
          refine qx_iload d_QM_operate_151 rfl ?_
          refine qx_imulN d_QM_operate_153 ?_
          refine qx_iload d_QM_operate_154 rfl ?_
          refine qx_iaddN d_QM_operate_156 ?_
          refine qx_iconstN (v := 1) d_QM_operate_157 rfl ?_
          refine qx_isubN d_QM_operate_158 (by omega) ?_
          refine qx_iload_n d_QM_operate_159 rfl rfl ?_
          refine qx_iast d_QM_operate_160 rfl rfl rfl rfl (by omega) ?_
          refine qx_aload_n d_QM_operate_161 rfl rfl ?_
          refine qx_getR d_QM_operate_162 fR_QM_27 rfl rfl (congrFun hR 18) ?_
          refine qx_iload d_QM_operate_165 rfl ?_
          refine qx_iload d_QM_operate_167 rfl ?_
          refine qx_iast d_QM_operate_169 rfl rfl rfl rfl (by omega) ?_
          refine qx_aload_n d_QM_operate_170 rfl rfl ?_
          refine qx_getR d_QM_operate_171 fR_QM_30 rfl rfl (congrFun hR 19) ?_
          refine qx_iload d_QM_operate_174 rfl ?_
          refine qx_iload_n d_QM_operate_176 rfl rfl ?_
          refine qx_iconstN (v := 3) d_QM_operate_177 rfl ?_
          refine qx_icmp_leN (t := 185) d_QM_operate_178 rfl (by omega) (by omega) (fun c178 => absurd c178 (by omega)) (fun c178 => ?_)
          refine qx_iconstN (v := 1) d_QM_operate_181 rfl ?_
          refine qx_goto (t := 186) d_QM_operate_182 rfl ?_
          refine qx_zast d_QM_operate_186 rfl rfl rfl rfl (by omega) rfl ?_
          refine qx_aload_n d_QM_operate_187 rfl rfl ?_
          refine qx_iload d_QM_operate_188 rfl ?_
          refine qx_iconstN (v := 1) d_QM_operate_190 rfl ?_
          refine qx_iaddN d_QM_operate_191 ?_
          refine qx_putI d_QM_operate_192 fI_QM_138 rfl rfl ⟨rfl, rfl⟩ ?_
          refine qx_iconstN (v := 1) d_QM_operate_195 rfl ?_
          exact qx_iret d_QM_operate_196 rfl rfl (by omega) (by omega) (by first | (rw [decide_eq_false (Nat.not_le.mpr c54)]; exact ⟨rfl, rfl, rfl⟩) | (rw [decide_eq_true c54, decide_eq_true (show op = 8 by omega), q_beq_f e0]; exact ⟨rfl, rfl, rfl⟩) | (rw [decide_eq_true c54, decide_eq_true (show op = 8 by omega), q_beq_t e0, decide_eq_false (Nat.not_le.mpr c118)]; exact ⟨rfl, rfl, rfl⟩) | (rw [decide_eq_true c54, decide_eq_true (show op = 8 by omega), q_beq_t e0, decide_eq_true c118]; exact ⟨rfl, rfl, rfl⟩) | (rw [decide_eq_true c54, decide_eq_false (show ¬ op = 8 by omega), q_beq_f e0]; exact ⟨rfl, rfl, rfl⟩) | (rw [decide_eq_true c54, decide_eq_false (show ¬ op = 8 by omega), q_beq_t e0, decide_eq_false (Nat.not_le.mpr c118)]; exact ⟨rfl, rfl, rfl⟩) | (rw [decide_eq_true c54, decide_eq_false (show ¬ op = 8 by omega), q_beq_t e0, decide_eq_true c118]; exact ⟨rfl, rfl, rfl⟩))
        · refine qx_iconstN (v := 0) d_QM_operate_121 rfl ?_
          exact qx_iret d_QM_operate_122 rfl rfl (by omega) (by omega) (by first | (rw [decide_eq_false (Nat.not_le.mpr c54)]; exact ⟨rfl, rfl, rfl⟩) | (rw [decide_eq_true c54, decide_eq_true (show op = 8 by omega), q_beq_f e0]; exact ⟨rfl, rfl, rfl⟩) | (rw [decide_eq_true c54, decide_eq_true (show op = 8 by omega), q_beq_t e0, decide_eq_false (Nat.not_le.mpr c118)]; exact ⟨rfl, rfl, rfl⟩) | (rw [decide_eq_true c54, decide_eq_true (show op = 8 by omega), q_beq_t e0, decide_eq_true c118]; exact ⟨rfl, rfl, rfl⟩) | (rw [decide_eq_true c54, decide_eq_false (show ¬ op = 8 by omega), q_beq_f e0]; exact ⟨rfl, rfl, rfl⟩) | (rw [decide_eq_true c54, decide_eq_false (show ¬ op = 8 by omega), q_beq_t e0, decide_eq_false (Nat.not_le.mpr c118)]; exact ⟨rfl, rfl, rfl⟩) | (rw [decide_eq_true c54, decide_eq_false (show ¬ op = 8 by omega), q_beq_t e0, decide_eq_true c118]; exact ⟨rfl, rfl, rfl⟩))
      · refine qx_iconstN (v := 0) d_QM_operate_94 rfl ?_
        exact qx_iret d_QM_operate_95 rfl rfl (by omega) (by omega) (by first | (rw [decide_eq_false (Nat.not_le.mpr c54)]; exact ⟨rfl, rfl, rfl⟩) | (rw [decide_eq_true c54, decide_eq_true (show op = 8 by omega), q_beq_f e0]; exact ⟨rfl, rfl, rfl⟩) | (rw [decide_eq_true c54, decide_eq_true (show op = 8 by omega), q_beq_t e0, decide_eq_false (Nat.not_le.mpr c118)]; exact ⟨rfl, rfl, rfl⟩) | (rw [decide_eq_true c54, decide_eq_true (show op = 8 by omega), q_beq_t e0, decide_eq_true c118]; exact ⟨rfl, rfl, rfl⟩) | (rw [decide_eq_true c54, decide_eq_false (show ¬ op = 8 by omega), q_beq_f e0]; exact ⟨rfl, rfl, rfl⟩) | (rw [decide_eq_true c54, decide_eq_false (show ¬ op = 8 by omega), q_beq_t e0, decide_eq_false (Nat.not_le.mpr c118)]; exact ⟨rfl, rfl, rfl⟩) | (rw [decide_eq_true c54, decide_eq_false (show ¬ op = 8 by omega), q_beq_t e0, decide_eq_true c118]; exact ⟨rfl, rfl, rfl⟩))
    · refine qx_iconstN (v := 0) d_QM_operate_57 rfl ?_
      exact qx_iret d_QM_operate_58 rfl rfl (by omega) (by omega) (by first | (rw [decide_eq_false (Nat.not_le.mpr c54)]; exact ⟨rfl, rfl, rfl⟩) | (rw [decide_eq_true c54, decide_eq_true (show op = 8 by omega), q_beq_f e0]; exact ⟨rfl, rfl, rfl⟩) | (rw [decide_eq_true c54, decide_eq_true (show op = 8 by omega), q_beq_t e0, decide_eq_false (Nat.not_le.mpr c118)]; exact ⟨rfl, rfl, rfl⟩) | (rw [decide_eq_true c54, decide_eq_true (show op = 8 by omega), q_beq_t e0, decide_eq_true c118]; exact ⟨rfl, rfl, rfl⟩) | (rw [decide_eq_true c54, decide_eq_false (show ¬ op = 8 by omega), q_beq_f e0]; exact ⟨rfl, rfl, rfl⟩) | (rw [decide_eq_true c54, decide_eq_false (show ¬ op = 8 by omega), q_beq_t e0, decide_eq_false (Nat.not_le.mpr c118)]; exact ⟨rfl, rfl, rfl⟩) | (rw [decide_eq_true c54, decide_eq_false (show ¬ op = 8 by omega), q_beq_t e0, decide_eq_true c118]; exact ⟨rfl, rfl, rfl⟩))
