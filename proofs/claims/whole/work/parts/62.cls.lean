set_option maxRecDepth 100000 in
set_option maxHeartbeats 4000000 in
theorem ct_Ex_namesFirst {h : qH} (e : Nat) (he : exOk e) (nm : Int32) (hnm : h.1 e 4 = nm) : qT mi_Ex_namesFirst 0 0 0 [.ref e] h NN (fun v1 h1 n1 => v1 = some (.int (b2i (decide (¬ nm &&& nI 3 = 0)))) ∧ h = h1 ∧ n1 = NN) := by
  refine qT.of (lv0 := [_]) (by decide +kernel) (fun _ _ => Nat.le_of_ble_eq_true rfl) rfl ?_
  have hx := ex_pl he
  refine qx_aload_n d_Ex_namesFirst_0 rfl rfl ?_
  refine qx_getI d_Ex_namesFirst_1 fI_Ex_26 hx.1 hx.2.2.2.1 hnm ?_
  refine qx_iconstN (v := 3) d_Ex_namesFirst_4 rfl ?_
  refine qx_iand d_Ex_namesFirst_5 ?_
  refine qx_if_eq (t := 13) d_Ex_namesFirst_6 rfl (fun q => ?_) (fun q => ?_)
  · refine qx_iconstN (v := 0) d_Ex_namesFirst_13 rfl ?_
    exact qx_iret d_Ex_namesFirst_14 rfl rfl (by omega) (by omega) (by refine ⟨?_, rfl, rfl⟩; first | (rw [decide_eq_true q]; rfl) | (rw [decide_eq_false (fun z => z q)]; rfl))
  · refine qx_iconstN (v := 1) d_Ex_namesFirst_9 rfl ?_
    refine qx_goto (t := 14) d_Ex_namesFirst_10 rfl ?_
    exact qx_iret d_Ex_namesFirst_14 rfl rfl (by omega) (by omega) (by refine ⟨?_, rfl, rfl⟩; first | (rw [decide_eq_true q]; rfl) | (rw [decide_eq_false (fun z => z q)]; rfl))
set_option maxRecDepth 100000 in
set_option maxHeartbeats 4000000 in
theorem ct_Ex_namesSecond {h : qH} (e : Nat) (he : exOk e) (nm : Int32) (hnm : h.1 e 4 = nm) : qT mi_Ex_namesSecond 0 0 0 [.ref e] h NN (fun v1 h1 n1 => v1 = some (.int (b2i (decide (¬ nm &&& nI 12 = 0)))) ∧ h = h1 ∧ n1 = NN) := by
  refine qT.of (lv0 := [_]) (by decide +kernel) (fun _ _ => Nat.le_of_ble_eq_true rfl) rfl ?_
  have hx := ex_pl he
  refine qx_aload_n d_Ex_namesSecond_0 rfl rfl ?_
  refine qx_getI d_Ex_namesSecond_1 fI_Ex_26 hx.1 hx.2.2.2.1 hnm ?_
  refine qx_bipushN (v := 12) d_Ex_namesSecond_4 rfl ?_
  refine qx_iand d_Ex_namesSecond_6 ?_
  refine qx_if_eq (t := 14) d_Ex_namesSecond_7 rfl (fun q => ?_) (fun q => ?_)
  · refine qx_iconstN (v := 0) d_Ex_namesSecond_14 rfl ?_
    exact qx_iret d_Ex_namesSecond_15 rfl rfl (by omega) (by omega) (by refine ⟨?_, rfl, rfl⟩; first | (rw [decide_eq_true q]; rfl) | (rw [decide_eq_false (fun z => z q)]; rfl))
  · refine qx_iconstN (v := 1) d_Ex_namesSecond_10 rfl ?_
    refine qx_goto (t := 15) d_Ex_namesSecond_11 rfl ?_
    exact qx_iret d_Ex_namesSecond_15 rfl rfl (by omega) (by omega) (by refine ⟨?_, rfl, rfl⟩; first | (rw [decide_eq_true q]; rfl) | (rw [decide_eq_false (fun z => z q)]; rfl))
