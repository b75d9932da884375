/-! ===== the class's face: calls that are handed on: by program (mkface.py) ===== -/
theorem wp_typed {y : MD} {d kc ks pc : Nat} {lo : List (Option Value)} {st : List Value} {H : PH} {Q : Option Value → PH → Prop} (k : Wp y d kc ks pc lo st H Q) : Wp y d kc ks pc lo st H (fun v H' => Q v H' ∧ ∃ i, retI y v i) := by
  intro b o L xs dC dI aC p l e R s m args below meth c Hm locs cells slots Qm ls hC hW hS hl h1 h2 h3 h4 hr
  exact k b o L xs dC dI aC p l e R s m args below meth c Hm locs cells slots Qm ls hC hW hS hl h1 h2 h3 h4 (fun v H' Hm' locs' pc' ls' i q w1 w2 w3 w4 => hr v H' Hm' locs' pc' ls' i ⟨q, i, w3⟩ w1 w2 w3 w4)
theorem wp_int {y : MD} {d kc ks pc : Nat} {lo : List (Option Value)} {st : List Value} {H : PH} {Q : Option Value → PH → Prop} (hy : y.2.2.2 = some .int) (k : Wp y d kc ks pc lo st H Q) : Wp y d kc ks pc lo st H (fun v H' => ∃ x, v = some (.int x) ∧ Q (some (.int x)) H') := by
  refine wp_post (fun v H' h => ?_) (wp_typed k)
  obtain ⟨hq, i, hi⟩ := h
  rcases hi with ⟨g1, -⟩ | ⟨x, g1, rfl, -⟩ | ⟨x, g1, -⟩ | ⟨x, g1, -⟩ | ⟨r, t, g1, g2, -⟩
  · rw [hy] at g1; cases g1
  · exact ⟨x, rfl, hq⟩
  · rw [hy] at g1; cases g1
  · rw [hy] at g1; cases g1
  · rw [hy] at g1; cases g1; rcases g2 with ⟨n, q⟩ | ⟨n, q⟩ <;> cases q
theorem wp_bool {y : MD} {d kc ks pc : Nat} {lo : List (Option Value)} {st : List Value} {H : PH} {Q : Option Value → PH → Prop} (hy : y.2.2.2 = some .boolean) (k : Wp y d kc ks pc lo st H Q) : Wp y d kc ks pc lo st H (fun v H' => ∃ x, v = some (.int x) ∧ (x = 0 ∨ x = 1) ∧ Q (some (.int x)) H') := by
  refine wp_post (fun v H' h => ?_) (wp_typed k)
  obtain ⟨hq, i, hi⟩ := h
  rcases hi with ⟨g1, -⟩ | ⟨x, g1, -⟩ | ⟨x, g1, hx, rfl, -⟩ | ⟨x, g1, -⟩ | ⟨r, t, g1, g2, -⟩
  · rw [hy] at g1; cases g1
  · rw [hy] at g1; cases g1
  · exact ⟨x, rfl, hx, hq⟩
  · rw [hy] at g1; cases g1
  · rw [hy] at g1; cases g1; rcases g2 with ⟨n, q⟩ | ⟨n, q⟩ <;> cases q

theorem c_X11_horse {d : Nat} {a1 a2 a3 a4 : Int32} {H : PH} {Q : Option Value → PH → Prop} (hF : Fix H) (k : Wp mX8_add d 1 5 0 [some (.ref 2), some (.int a1), some (.int a2), some (.int a3), some (.int a4), none] [] H Q) : Wp mX11_horse (d + 1) 1 5 0 [some (.ref 1), some (.int a1), some (.int a2), some (.int a3), some (.int a4)] [] H Q := by
  refine wp_aload_n dX11_horse_0 rfl ?_
  refine wp_geta dX11_horse_1 fl_RX11_10 rfl (fk_1 hF) (fr_1_0 hF) ?_
  refine wp_iload_n dX11_horse_4 rfl ?_
  refine wp_iload_n dX11_horse_5 rfl ?_
  refine wp_iload_n dX11_horse_6 rfl ?_
  refine wp_iload dX11_horse_7 rfl ?_
  refine wp_callv4n (kc := 0) (ks := 0) (mc := 1) (ms := 5) (ci := 8) dX11_horse_9 lk_RX11_80 ok_X8_add im_X8_add se_X8_add rfl rfl (fk_2 hF) (Nat.le_of_ble_eq_true rfl) (Nat.le_of_ble_eq_true rfl) ?_
  refine wp_post (fun v H' hv => ?_) (wp_int rfl k)
  obtain ⟨x, rfl, hx⟩ := hv
  refine wp_ireturn rfl dX11_horse_12 ?_
  exact hx
theorem c_X11_lame {d : Nat} {a1 a2 : Int32} {H : PH} {Q : Option Value → PH → Prop} (hF : Fix H) (k : Wp mX8_setLame d 0 0 0 [some (.ref 2), some (.int a1), some (.int a2)] [] H Q) : Wp mX11_lame (d + 1) 0 0 0 [some (.ref 1), some (.int a1), some (.int a2)] [] H Q := by
  refine wp_aload_n dX11_lame_0 rfl ?_
  refine wp_geta dX11_lame_1 fl_RX11_10 rfl (fk_1 hF) (fr_1_0 hF) ?_
  refine wp_iload_n dX11_lame_4 rfl ?_
  refine wp_iload_n dX11_lame_5 rfl ?_
  refine wp_callv2 (ci := 8) dX11_lame_6 lk_RX11_84 ok_X8_setLame im_X8_setLame se_X8_setLame rfl rfl (fk_2 hF) (Nat.le_of_ble_eq_true rfl) (Nat.le_of_ble_eq_true rfl) ?_
  refine wp_post (fun v H' hv => ?_) (wp_bool rfl k)
  obtain ⟨x, rfl, hx01, hx⟩ := hv
  refine wp_zreturn rfl (hx01) dX11_lame_9 ?_
  exact hx
theorem c_X11_spans {d : Nat} {a1 a2 : Int32} {H : PH} {Q : Option Value → PH → Prop} (hF : Fix H) (k : Wp mX8_setSpans d 0 0 0 [some (.ref 2), some (.int a1), some (.int a2)] [] H Q) : Wp mX11_spans (d + 1) 0 0 0 [some (.ref 1), some (.int a1), some (.int a2)] [] H Q := by
  refine wp_aload_n dX11_spans_0 rfl ?_
  refine wp_geta dX11_spans_1 fl_RX11_10 rfl (fk_1 hF) (fr_1_0 hF) ?_
  refine wp_iload_n dX11_spans_4 rfl ?_
  refine wp_iload_n dX11_spans_5 rfl ?_
  refine wp_callv2 (ci := 8) dX11_spans_6 lk_RX11_88 ok_X8_setSpans im_X8_setSpans se_X8_setSpans rfl rfl (fk_2 hF) (Nat.le_of_ble_eq_true rfl) (Nat.le_of_ble_eq_true rfl) ?_
  refine wp_post (fun v H' hv => ?_) (wp_bool rfl k)
  obtain ⟨x, rfl, hx01, hx⟩ := hv
  refine wp_zreturn rfl (hx01) dX11_spans_9 ?_
  exact hx
theorem c_X11_way {d : Nat} {a1 a2 a3 : Int32} {H : PH} {Q : Option Value → PH → Prop} (hF : Fix H) (k : Wp mX1_setWay d 0 0 0 [some (.ref 5), some (.int a1), some (.int a2), some (.int a3)] [] H Q) : Wp mX11_way (d + 1) 0 0 0 [some (.ref 1), some (.int a1), some (.int a2), some (.int a3)] [] H Q := by
  refine wp_aload_n dX11_way_0 rfl ?_
  refine wp_geta dX11_way_1 fl_RX11_19 rfl (fk_1 hF) (fr_1_1 hF) ?_
  refine wp_iload_n dX11_way_4 rfl ?_
  refine wp_iload_n dX11_way_5 rfl ?_
  refine wp_iload_n dX11_way_6 rfl ?_
  refine wp_callv3 (ci := 1) dX11_way_7 lk_RX11_92 ok_X1_setWay im_X1_setWay se_X1_setWay rfl rfl (fk_5 hF) (Nat.le_of_ble_eq_true rfl) (Nat.le_of_ble_eq_true rfl) ?_
  refine wp_post (fun v H' hv => ?_) (wp_bool rfl k)
  obtain ⟨x, rfl, hx01, hx⟩ := hv
  refine wp_zreturn rfl (hx01) dX11_way_10 ?_
  exact hx
theorem c_X11_carriages {d : Nat} {a1 : Int32} {H : PH} {Q : Option Value → PH → Prop} (hF : Fix H) (k : Wp mX1_setCarriages d 0 0 0 [some (.ref 5), some (.int a1)] [] H Q) : Wp mX11_carriages (d + 1) 0 0 0 [some (.ref 1), some (.int a1)] [] H Q := by
  refine wp_aload_n dX11_carriages_0 rfl ?_
  refine wp_geta dX11_carriages_1 fl_RX11_19 rfl (fk_1 hF) (fr_1_1 hF) ?_
  refine wp_iload_n dX11_carriages_4 rfl ?_
  refine wp_callv1 (ci := 1) dX11_carriages_5 lk_RX11_96 ok_X1_setCarriages im_X1_setCarriages se_X1_setCarriages rfl rfl (fk_5 hF) (Nat.le_of_ble_eq_true rfl) (Nat.le_of_ble_eq_true rfl) ?_
  refine wp_post (fun v H' hv => ?_) (wp_bool rfl k)
  obtain ⟨x, rfl, hx01, hx⟩ := hv
  refine wp_zreturn rfl (hx01) dX11_carriages_8 ?_
  exact hx
theorem c_X11_need {d : Nat} {a1 : Int32} {H : PH} {Q : Option Value → PH → Prop} (hF : Fix H) (k : Wp mX10_setLeast d 0 0 0 [some (.ref 13), some (.int a1)] [] H Q) : Wp mX11_need (d + 1) 0 0 0 [some (.ref 1), some (.int a1)] [] H Q := by
  refine wp_aload_n dX11_need_0 rfl ?_
  refine wp_geta dX11_need_1 fl_RX11_37 rfl (fk_1 hF) (fr_1_3 hF) ?_
  refine wp_iload_n dX11_need_4 rfl ?_
  refine wp_callv1 (ci := 10) dX11_need_5 lk_RX11_100 ok_X10_setLeast im_X10_setLeast se_X10_setLeast rfl rfl (fk_13 hF) (Nat.le_of_ble_eq_true rfl) (Nat.le_of_ble_eq_true rfl) ?_
  refine wp_post (fun v H' hv => ?_) (wp_bool rfl k)
  obtain ⟨x, rfl, hx01, hx⟩ := hv
  refine wp_zreturn rfl (hx01) dX11_need_8 ?_
  exact hx
theorem c_X11_drop {d : Nat} {a1 : Int32} {H : PH} {Q : Option Value → PH → Prop} (hF : Fix H) (k : Wp mX1_cancel d 0 0 0 [some (.ref 5), some (.int a1), none] [] H Q) : Wp mX11_drop (d + 1) 0 0 0 [some (.ref 1), some (.int a1)] [] H Q := by
  refine wp_aload_n dX11_drop_0 rfl ?_
  refine wp_geta dX11_drop_1 fl_RX11_19 rfl (fk_1 hF) (fr_1_1 hF) ?_
  refine wp_iload_n dX11_drop_4 rfl ?_
  refine wp_callv1 (ci := 1) dX11_drop_5 lk_RX11_121 ok_X1_cancel im_X1_cancel se_X1_cancel rfl rfl (fk_5 hF) (Nat.le_of_ble_eq_true rfl) (Nat.le_of_ble_eq_true rfl) ?_
  refine wp_post (fun v H' hv => ?_) (wp_bool rfl k)
  obtain ⟨x, rfl, hx01, hx⟩ := hv
  refine wp_zreturn rfl (hx01) dX11_drop_8 ?_
  exact hx
theorem c_X11_team {d : Nat} {a1 a2 : Int32} {H : PH} {Q : Option Value → PH → Prop} (hF : Fix H) (k : Wp mX10_harness d 0 0 0 [some (.ref 13), some (.int a1), some (.int a2), none, none] [] H Q) : Wp mX11_team (d + 1) 0 0 0 [some (.ref 1), some (.int a1), some (.int a2)] [] H Q := by
  refine wp_aload_n dX11_team_0 rfl ?_
  refine wp_geta dX11_team_1 fl_RX11_37 rfl (fk_1 hF) (fr_1_3 hF) ?_
  refine wp_iload_n dX11_team_4 rfl ?_
  refine wp_iload_n dX11_team_5 rfl ?_
  refine wp_callv2 (ci := 10) dX11_team_6 lk_RX11_168 ok_X10_harness im_X10_harness se_X10_harness rfl rfl (fk_13 hF) (Nat.le_of_ble_eq_true rfl) (Nat.le_of_ble_eq_true rfl) ?_
  refine wp_post (fun v H' hv => ?_) (wp_bool rfl k)
  obtain ⟨x, rfl, hx01, hx⟩ := hv
  refine wp_zreturn rfl (hx01) dX11_team_9 ?_
  exact hx
theorem c_X11_right {d : Nat} {a1 : Int32} {H : PH} {Q : Option Value → PH → Prop} (hF : Fix H) (k : Wp mX10_standingOf d 0 0 0 [some (.ref 13), some (.int a1), none] [] H Q) : Wp mX11_right (d + 1) 0 0 0 [some (.ref 1), some (.int a1)] [] H Q := by
  refine wp_aload_n dX11_right_0 rfl ?_
  refine wp_geta dX11_right_1 fl_RX11_37 rfl (fk_1 hF) (fr_1_3 hF) ?_
  refine wp_iload_n dX11_right_4 rfl ?_
  refine wp_callv1 (ci := 10) dX11_right_5 lk_RX11_171 ok_X10_standingOf im_X10_standingOf se_X10_standingOf rfl rfl (fk_13 hF) (Nat.le_of_ble_eq_true rfl) (Nat.le_of_ble_eq_true rfl) ?_
  refine wp_post (fun v H' hv => ?_) (wp_int rfl k)
  obtain ⟨x, rfl, hx⟩ := hv
  refine wp_ireturn rfl dX11_right_8 ?_
  exact hx
theorem c_X11_feed {d : Nat} {a1 a2 a3 a4 a5 : Int32} {H : PH} {Q : Option Value → PH → Prop} (hF : Fix H) (k : Wp mX9_appendAll d 0 0 0 [some (.ref 14), some (.int a1), some (.int a2), some (.int a3), some (.int a4), some (.int a5)] [] H Q) : Wp mX11_feed (d + 1) 0 0 0 [some (.ref 1), some (.int a1), some (.int a2), some (.int a3), some (.int a4), some (.int a5)] [] H Q := by
  refine wp_aload_n dX11_feed_0 rfl ?_
  refine wp_geta dX11_feed_1 fl_RX11_44 rfl (fk_1 hF) (fr_1_4 hF) ?_
  refine wp_iload_n dX11_feed_4 rfl ?_
  refine wp_iload_n dX11_feed_5 rfl ?_
  refine wp_iload_n dX11_feed_6 rfl ?_
  refine wp_iload dX11_feed_7 rfl ?_
  refine wp_iload dX11_feed_9 rfl ?_
  refine wp_callv5 (ci := 9) dX11_feed_11 lk_RX11_184 ok_X9_appendAll im_X9_appendAll se_X9_appendAll rfl rfl (fk_14 hF) (Nat.le_of_ble_eq_true rfl) (Nat.le_of_ble_eq_true rfl) ?_
  refine wp_post (fun v H' hv => ?_) (wp_int rfl k)
  obtain ⟨x, rfl, hx⟩ := hv
  refine wp_ireturn rfl dX11_feed_14 ?_
  exact hx
theorem c_X11_end {d : Nat} {a1 : Int32} {H : PH} {Q : Option Value → PH → Prop} (hF : Fix H) (k : Wp mX9_cutTo d 0 0 0 [some (.ref 14), some (.int a1)] [] H Q) : Wp mX11_end (d + 1) 0 0 0 [some (.ref 1), some (.int a1)] [] H Q := by
  refine wp_aload_n dX11_end_0 rfl ?_
  refine wp_geta dX11_end_1 fl_RX11_44 rfl (fk_1 hF) (fr_1_4 hF) ?_
  refine wp_iload_n dX11_end_4 rfl ?_
  refine wp_callv1 (ci := 9) dX11_end_5 lk_RX11_188 ok_X9_cutTo im_X9_cutTo se_X9_cutTo rfl rfl (fk_14 hF) (Nat.le_of_ble_eq_true rfl) (Nat.le_of_ble_eq_true rfl) ?_
  refine wp_post (fun v H' hv => ?_) (wp_int rfl k)
  obtain ⟨x, rfl, hx⟩ := hv
  refine wp_ireturn rfl dX11_end_8 ?_
  exact hx
theorem c_X11_broken {d : Nat} {a1 a2 a3 a4 : Int32} {H : PH} {Q : Option Value → PH → Prop} (hF : Fix H) (k : Wp mX0_enter d 0 0 0 [some (.ref 23), some (.int a1), some (.int a2), some (.int a3), some (.int a4), none] [] H Q) : Wp mX11_broken (d + 1) 0 0 0 [some (.ref 1), some (.int a1), some (.int a2), some (.int a3), some (.int a4)] [] H Q := by
  refine wp_aload_n dX11_broken_0 rfl ?_
  refine wp_geta dX11_broken_1 fl_RX11_67 rfl (fk_1 hF) (fr_1_7 hF) ?_
  refine wp_iload_n dX11_broken_4 rfl ?_
  refine wp_iload_n dX11_broken_5 rfl ?_
  refine wp_iload_n dX11_broken_6 rfl ?_
  refine wp_iload dX11_broken_7 rfl ?_
  refine wp_callv4 (ci := 0) dX11_broken_9 lk_RX11_217 ok_X0_enter im_X0_enter se_X0_enter rfl rfl (fk_23 hF) (Nat.le_of_ble_eq_true rfl) (Nat.le_of_ble_eq_true rfl) ?_
  refine wp_post (fun v H' hv => ?_) (wp_int rfl k)
  obtain ⟨x, rfl, hx⟩ := hv
  refine wp_ireturn rfl dX11_broken_12 ?_
  exact hx
theorem c_X11_untell {d : Nat} {a1 a2 : Int32} {H : PH} {Q : Option Value → PH → Prop} (hF : Fix H) (k : Wp mX0_takeBack d 0 0 0 [some (.ref 23), some (.int a1), some (.int a2)] [] H Q) : Wp mX11_untell (d + 1) 0 0 0 [some (.ref 1), some (.int a1), some (.int a2)] [] H Q := by
  refine wp_aload_n dX11_untell_0 rfl ?_
  refine wp_geta dX11_untell_1 fl_RX11_67 rfl (fk_1 hF) (fr_1_7 hF) ?_
  refine wp_iload_n dX11_untell_4 rfl ?_
  refine wp_iload_n dX11_untell_5 rfl ?_
  refine wp_callv2 (ci := 0) dX11_untell_6 lk_RX11_220 ok_X0_takeBack im_X0_takeBack se_X0_takeBack rfl rfl (fk_23 hF) (Nat.le_of_ble_eq_true rfl) (Nat.le_of_ble_eq_true rfl) ?_
  refine wp_post (fun v H' hv => ?_) (wp_bool rfl k)
  obtain ⟨x, rfl, hx01, hx⟩ := hv
  refine wp_zreturn rfl (hx01) dX11_untell_9 ?_
  exact hx
theorem c_X11_whole {d : Nat} {a1 a2 a3 : Int32} {H : PH} {Q : Option Value → PH → Prop} (hF : Fix H) (k : Wp mX0_wholeAt d 0 0 0 [some (.ref 23), some (.int a1), some (.int a2), some (.int a3), none] [] H Q) : Wp mX11_whole (d + 1) 0 0 0 [some (.ref 1), some (.int a1), some (.int a2), some (.int a3)] [] H Q := by
  refine wp_aload_n dX11_whole_0 rfl ?_
  refine wp_geta dX11_whole_1 fl_RX11_67 rfl (fk_1 hF) (fr_1_7 hF) ?_
  refine wp_iload_n dX11_whole_4 rfl ?_
  refine wp_iload_n dX11_whole_5 rfl ?_
  refine wp_iload_n dX11_whole_6 rfl ?_
  refine wp_callv3 (ci := 0) dX11_whole_7 lk_RX11_223 ok_X0_wholeAt im_X0_wholeAt se_X0_wholeAt rfl rfl (fk_23 hF) (Nat.le_of_ble_eq_true rfl) (Nat.le_of_ble_eq_true rfl) ?_
  refine wp_post (fun v H' hv => ?_) (wp_int rfl k)
  obtain ⟨x, rfl, hx⟩ := hv
  refine wp_ireturn rfl dX11_whole_10 ?_
  exact hx
theorem c_X11_free {d : Nat} {a1 a2 a3 a4 : Int32} {H : PH} {Q : Option Value → PH → Prop} (hF : Fix H) (k : Wp mX0_firstFree d 0 0 0 [some (.ref 23), some (.int a1), some (.int a2), some (.int a3), some (.int a4), none, none, none, none] [] H Q) : Wp mX11_free (d + 1) 0 0 0 [some (.ref 1), some (.int a1), some (.int a2), some (.int a3), some (.int a4)] [] H Q := by
  refine wp_aload_n dX11_free_0 rfl ?_
  refine wp_geta dX11_free_1 fl_RX11_67 rfl (fk_1 hF) (fr_1_7 hF) ?_
  refine wp_iload_n dX11_free_4 rfl ?_
  refine wp_iload_n dX11_free_5 rfl ?_
  refine wp_iload_n dX11_free_6 rfl ?_
  refine wp_iload dX11_free_7 rfl ?_
  refine wp_callv4 (ci := 0) dX11_free_9 lk_RX11_227 ok_X0_firstFree im_X0_firstFree se_X0_firstFree rfl rfl (fk_23 hF) (Nat.le_of_ble_eq_true rfl) (Nat.le_of_ble_eq_true rfl) ?_
  refine wp_post (fun v H' hv => ?_) (wp_int rfl k)
  obtain ⟨x, rfl, hx⟩ := hv
  refine wp_ireturn rfl dX11_free_12 ?_
  exact hx
