abbrev zNW : List (String × Nat × MethodName × String) := [(RX3, 74, yX8_isMonth, "MonthPush"), (RX3, 93, yX8_cutToWage, "MonthPush"), (RX1, 44, yX8_thousandths, "MonthPush"), (RX6, 79, yX8_thousandths, "MonthPush"), (RX2, 18, yX5_init, "MonthPush"), (RX8, 380, yX2_init, "MonthPush"), (RX8, 9, yX7_init, "MonthPush"), (RX8, 28, yX5_init, "MonthPush"), (RX8, 38, yX0_init, "MonthPush"), (RX8, 45, yX6_init, "MonthPush"), (RX8, 52, yX1_init, "MonthPush"), (RX8, 69, yX4_init, "MonthPush")]
abbrev zAO : List String := [RX2, RX4]
set_option maxRecDepth 100000 in
set_option maxHeartbeats 8000000 in
def zIm (cB cI cJ cZ cP cQ : ClassId) (o : Option Nat) (wI : va_W) : Prop := (o = none ∧ wI = []) ∨ ∃ (im : Nat) (adm : Nat → Nat) (vim : Nat → Int32) (fim : Nat → (Nat → Int32)), o = some im ∧ (0 ≤ ((vim 1).toInt) ∧ ((vim 1).toInt) ≤ 6 ∧ 0 ≤ ((vim 2).toInt) ∧ ((vim 2).toInt) ≤ 8 ∧ 0 ≤ ((vim 4).toInt) ∧ ((vim 4).toInt) ≤ 120 ∧ 0 ≤ ((vim 6).toInt) ∧ ((vim 6).toInt) ≤ 1 ∧ (zR 0 240 (fim 4)) ∧ (zR 0 60 (fim 5)) ∧ 0 ≤ ((vim 7).toInt) ∧ ((vim 7).toInt) ≤ 200 ∧ (zR 0 300 (fim 11))) ∧ wI = [(im, .inr (2, [.ref (adm 0), .ref (adm 10)])), ((adm 0), .inr (3, [.int (vim 0), .int (vim 1), .int (vim 2), .int (vim 3), .int (vim 4), .int (vim 5), .int (vim 6), .ref (adm 1), .ref (adm 2), .ref (adm 3), .ref (adm 4), .ref (adm 5), .ref (adm 6), .ref (adm 7), .ref (adm 8), .ref (adm 9)])), ((adm 1), .inl (cI, 6, .inl (fim 0))), ((adm 2), .inl (cI, 6, .inl (fim 1))), ((adm 3), .inl (cI, 8, .inl (fim 2))), ((adm 4), .inl (cI, 8, .inl (fim 3))), ((adm 5), .inl (cI, 8, .inl (fim 4))), ((adm 6), .inl (cI, 8, .inl (fim 5))), ((adm 7), .inl (cI, 13, .inl (fim 6))), ((adm 8), .inl (cI, 120, .inl (fim 7))), ((adm 9), .inl (cI, 120, .inl (fim 8))), ((adm 10), .inr (5, [.int (vim 7), .ref (adm 11), .ref (adm 12), .ref (adm 13), .ref (adm 14), .ref (adm 15), .ref (adm 16)])), ((adm 11), .inl (cI, 200, .inl (fim 9))), ((adm 12), .inl (cI, 200, .inl (fim 10))), ((adm 13), .inl (cI, 200, .inl (fim 11))), ((adm 14), .inl (cI, 200, .inl (fim 12))), ((adm 15), .inl (cI, 200, .inl (fim 13))), ((adm 16), .inl (cI, 200, .inl (fim 14)))]
set_option maxRecDepth 100000 in
set_option maxHeartbeats 8000000 in
theorem zIm_mk {cB cI cJ cZ cP cQ : ClassId} {o : Option Nat} (im : Nat) (im_land : Nat) (im_land_enter : Nat) (im_land_leave : Nat) (im_land_share : Nat) (im_land_gift : Nat) (im_land_wish : Nat) (im_land_spread : Nat) (im_land_leakBy : Nat) (im_land_joint : Nat) (im_land_part : Nat) (im_sheets : Nat) (im_sheets_state : Nat) (im_sheets_month : Nat) (im_sheets_school : Nat) (im_sheets_wage : Nat) (im_sheets_gift : Nat) (im_sheets_wish : Nat) (im_land_lines : Int32) (im_land_laws : Int32) (im_land_sorts : Int32) (im_land_shares : Int32) (im_land_parts : Int32) (im_land_noise : Int32) (im_land_noiseTold : Int32) (im_land_enter_f : Nat → Int32) (im_land_leave_f : Nat → Int32) (im_land_share_f : Nat → Int32) (im_land_gift_f : Nat → Int32) (im_land_wish_f : Nat → Int32) (im_land_spread_f : Nat → Int32) (im_land_leakBy_f : Nat → Int32) (im_land_joint_f : Nat → Int32) (im_land_part_f : Nat → Int32) (im_sheets_n : Int32) (im_sheets_state_f : Nat → Int32) (im_sheets_month_f : Nat → Int32) (im_sheets_school_f : Nat → Int32) (im_sheets_wage_f : Nat → Int32) (im_sheets_gift_f : Nat → Int32) (im_sheets_wish_f : Nat → Int32) (ho : o = some im) (t0 : 0 ≤ im_land_laws.toInt) (t1 : im_land_laws.toInt ≤ 6) (t2 : 0 ≤ im_land_sorts.toInt) (t3 : im_land_sorts.toInt ≤ 8) (t4 : 0 ≤ im_land_parts.toInt) (t5 : im_land_parts.toInt ≤ 120) (t6 : 0 ≤ im_land_noiseTold.toInt) (t7 : im_land_noiseTold.toInt ≤ 1) (t8 : zR 0 240 im_land_wish_f) (t9 : zR 0 60 im_land_spread_f) (t10 : 0 ≤ im_sheets_n.toInt) (t11 : im_sheets_n.toInt ≤ 200) (t12 : zR 0 300 im_sheets_school_f) : zIm cB cI cJ cZ cP cQ o [(im, .inr (2, [.ref im_land, .ref im_sheets])), (im_land, .inr (3, [.int im_land_lines, .int im_land_laws, .int im_land_sorts, .int im_land_shares, .int im_land_parts, .int im_land_noise, .int im_land_noiseTold, .ref im_land_enter, .ref im_land_leave, .ref im_land_share, .ref im_land_gift, .ref im_land_wish, .ref im_land_spread, .ref im_land_leakBy, .ref im_land_joint, .ref im_land_part])), (im_land_enter, .inl (cI, 6, .inl im_land_enter_f)), (im_land_leave, .inl (cI, 6, .inl im_land_leave_f)), (im_land_share, .inl (cI, 8, .inl im_land_share_f)), (im_land_gift, .inl (cI, 8, .inl im_land_gift_f)), (im_land_wish, .inl (cI, 8, .inl im_land_wish_f)), (im_land_spread, .inl (cI, 8, .inl im_land_spread_f)), (im_land_leakBy, .inl (cI, 13, .inl im_land_leakBy_f)), (im_land_joint, .inl (cI, 120, .inl im_land_joint_f)), (im_land_part, .inl (cI, 120, .inl im_land_part_f)), (im_sheets, .inr (5, [.int im_sheets_n, .ref im_sheets_state, .ref im_sheets_month, .ref im_sheets_school, .ref im_sheets_wage, .ref im_sheets_gift, .ref im_sheets_wish])), (im_sheets_state, .inl (cI, 200, .inl im_sheets_state_f)), (im_sheets_month, .inl (cI, 200, .inl im_sheets_month_f)), (im_sheets_school, .inl (cI, 200, .inl im_sheets_school_f)), (im_sheets_wage, .inl (cI, 200, .inl im_sheets_wage_f)), (im_sheets_gift, .inl (cI, 200, .inl im_sheets_gift_f)), (im_sheets_wish, .inl (cI, 200, .inl im_sheets_wish_f))] := Or.inr ⟨im, fun k => ([im_land, im_land_enter, im_land_leave, im_land_share, im_land_gift, im_land_wish, im_land_spread, im_land_leakBy, im_land_joint, im_land_part, im_sheets, im_sheets_state, im_sheets_month, im_sheets_school, im_sheets_wage, im_sheets_gift, im_sheets_wish] : List Nat).getD k 0, fun k => ([im_land_lines, im_land_laws, im_land_sorts, im_land_shares, im_land_parts, im_land_noise, im_land_noiseTold, im_sheets_n] : List Int32).getD k 0, fun k => ([im_land_enter_f, im_land_leave_f, im_land_share_f, im_land_gift_f, im_land_wish_f, im_land_spread_f, im_land_leakBy_f, im_land_joint_f, im_land_part_f, im_sheets_state_f, im_sheets_month_f, im_sheets_school_f, im_sheets_wage_f, im_sheets_gift_f, im_sheets_wish_f] : List (Nat → Int32)).getD k (fun _ => 0), ho, ⟨t0, t1, t2, t3, t4, t5, t6, t7, t8, t9, t10, t11, t12⟩, rfl⟩
set_option maxRecDepth 100000 in
set_option maxHeartbeats 8000000 in
def IX (cB cI cJ cZ cP cQ : ClassId) (h0 : Nat) (w : va_W) : Prop := ∃ (ad : Nat → Nat) (vi : Nat → Int32) (fi : Nat → (Nat → Int32)) (vl : Nat → Int64) (fl : Nat → (Nat → Int64)) (fq : Nat → (Nat → Option Nat)) (i0 i1 i2 : va_W), (0 ≤ ((vi 0).toInt) ∧ ((vi 0).toInt) ≤ 600 ∧ 0 ≤ ((vi 3).toInt) ∧ ((vi 3).toInt) ≤ 600 ∧ 0 ≤ ((vi 5).toInt) ∧ ((vi 5).toInt) ≤ 600 ∧ 0 ≤ ((vi 8).toInt) ∧ ((vi 8).toInt) ≤ 6 ∧ 0 ≤ ((vi 9).toInt) ∧ ((vi 9).toInt) ≤ 8 ∧ 0 ≤ ((vi 11).toInt) ∧ ((vi 11).toInt) ≤ 120 ∧ 0 ≤ ((vi 13).toInt) ∧ ((vi 13).toInt) ≤ 1 ∧ (zR 0 240 (fi 5)) ∧ (zR 0 60 (fi 6)) ∧ 0 ≤ ((vi 15).toInt) ∧ ((vi 15).toInt) ≤ 6 ∧ 0 ≤ ((vi 16).toInt) ∧ ((vi 16).toInt) ≤ 8 ∧ 0 ≤ ((vi 18).toInt) ∧ ((vi 18).toInt) ≤ 120 ∧ 0 ≤ ((vi 20).toInt) ∧ ((vi 20).toInt) ≤ 1 ∧ (zR 0 240 (fi 14)) ∧ (zR 0 60 (fi 15)) ∧ 0 ≤ ((vi 21).toInt) ∧ ((vi 21).toInt) ≤ 200 ∧ (zR 0 300 (fi 21)) ∧ 0 ≤ ((vi 22).toInt) ∧ ((vi 22).toInt) ≤ 200 ∧ (zR 0 300 (fi 27)) ∧ 0 ≤ ((vl 1).toInt) ∧ 0 ≤ ((vl 5).toInt) ∧ ((vl 1).toInt) ≤ 200 ∧ ((vl 5).toInt) ≤ 200 ∧ ((vl 1).toInt) + ((vl 5).toInt) ≤ 200 ∧ 0 ≤ ((vl 2).toInt) ∧ ((vl 2).toInt) ≤ 300 * ((vl 1).toInt) ∧ 0 ≤ ((vl 6).toInt) ∧ ((vl 6).toInt) ≤ 300 * ((vl 5).toInt) ∧ 0 ≤ ((vl 9).toInt) ∧ ((vl 9).toInt) ≤ 90000 * (((vl 1).toInt) + ((vl 5).toInt)) ∧ 0 ≤ ((vi 24).toInt) ∧ ((vi 24).toInt) ≤ 60 ∧ 0 ≤ ((vi 26).toInt) ∧ ((vi 26).toInt) ≤ 60 ∧ 0 ≤ ((vi 28).toInt) ∧ ((vi 28).toInt) ≤ 60 ∧ 0 ≤ ((vi 30).toInt) ∧ ((vi 30).toInt) ≤ 60) ∧ zIm cB cI cJ cZ cP cQ ((fq 0) 0) i0 ∧ zIm cB cI cJ cZ cP cQ ((fq 0) 1) i1 ∧ zIm cB cI cJ cZ cP cQ ((fq 0) 2) i2 ∧ w.Perm ([(h0, .inr (8, [.ref (ad 0), .ref (ad 2), .ref (ad 12), .ref (ad 22), .ref (ad 29), .ref (ad 36), .ref (ad 37), .ref (ad 38), .ref (ad 42), .ref (ad 43)])), ((ad 0), .inr (7, [.ref (ad 1), .int (vi 0), .int (vi 1), .int (vi 2), .int (vi 3), .int (vi 4), .int (vi 5), .int (vi 6)])), ((ad 1), .inl (cB, 600, .inl (fi 0))), ((ad 2), .inr (3, [.int (vi 7), .int (vi 8), .int (vi 9), .int (vi 10), .int (vi 11), .int (vi 12), .int (vi 13), .ref (ad 3), .ref (ad 4), .ref (ad 5), .ref (ad 6), .ref (ad 7), .ref (ad 8), .ref (ad 9), .ref (ad 10), .ref (ad 11)])), ((ad 3), .inl (cI, 6, .inl (fi 1))), ((ad 4), .inl (cI, 6, .inl (fi 2))), ((ad 5), .inl (cI, 8, .inl (fi 3))), ((ad 6), .inl (cI, 8, .inl (fi 4))), ((ad 7), .inl (cI, 8, .inl (fi 5))), ((ad 8), .inl (cI, 8, .inl (fi 6))), ((ad 9), .inl (cI, 13, .inl (fi 7))), ((ad 10), .inl (cI, 120, .inl (fi 8))), ((ad 11), .inl (cI, 120, .inl (fi 9))), ((ad 12), .inr (3, [.int (vi 14), .int (vi 15), .int (vi 16), .int (vi 17), .int (vi 18), .int (vi 19), .int (vi 20), .ref (ad 13), .ref (ad 14), .ref (ad 15), .ref (ad 16), .ref (ad 17), .ref (ad 18), .ref (ad 19), .ref (ad 20), .ref (ad 21)])), ((ad 13), .inl (cI, 6, .inl (fi 10))), ((ad 14), .inl (cI, 6, .inl (fi 11))), ((ad 15), .inl (cI, 8, .inl (fi 12))), ((ad 16), .inl (cI, 8, .inl (fi 13))), ((ad 17), .inl (cI, 8, .inl (fi 14))), ((ad 18), .inl (cI, 8, .inl (fi 15))), ((ad 19), .inl (cI, 13, .inl (fi 16))), ((ad 20), .inl (cI, 120, .inl (fi 17))), ((ad 21), .inl (cI, 120, .inl (fi 18))), ((ad 22), .inr (5, [.int (vi 21), .ref (ad 23), .ref (ad 24), .ref (ad 25), .ref (ad 26), .ref (ad 27), .ref (ad 28)])), ((ad 23), .inl (cI, 200, .inl (fi 19))), ((ad 24), .inl (cI, 200, .inl (fi 20))), ((ad 25), .inl (cI, 200, .inl (fi 21))), ((ad 26), .inl (cI, 200, .inl (fi 22))), ((ad 27), .inl (cI, 200, .inl (fi 23))), ((ad 28), .inl (cI, 200, .inl (fi 24))), ((ad 29), .inr (5, [.int (vi 22), .ref (ad 30), .ref (ad 31), .ref (ad 32), .ref (ad 33), .ref (ad 34), .ref (ad 35)])), ((ad 30), .inl (cI, 200, .inl (fi 25))), ((ad 31), .inl (cI, 200, .inl (fi 26))), ((ad 32), .inl (cI, 200, .inl (fi 27))), ((ad 33), .inl (cI, 200, .inl (fi 28))), ((ad 34), .inl (cI, 200, .inl (fi 29))), ((ad 35), .inl (cI, 200, .inl (fi 30))), ((ad 36), .inr (0, [.long (vl 0)])), ((ad 37), .inr (6, [.long (vl 1), .long (vl 2), .long (vl 3), .long (vl 4), .long (vl 5), .long (vl 6), .long (vl 7), .long (vl 8), .long (vl 9), .long (vl 10), .long (vl 11)])), ((ad 38), .inr (1, [.ref (ad 39), .ref (ad 40), .ref (ad 41)])), ((ad 39), .inl (cJ, 72, .inr (.inl (fl 0)))), ((ad 40), .inl (cJ, 72, .inr (.inl (fl 1)))), ((ad 41), .inl (cJ, 72, .inr (.inl (fl 2)))), ((ad 42), .inl (cP, 3, .inr (.inr (.inr (.inr (fq 0)))))), ((ad 43), .inl (cQ, 4, .inr (.inr (.inr (.inr (zQ4 (ad 44) (ad 46) (ad 48) (ad 50))))))), ((ad 44), .inr (4, [.int (vi 23), .int (vi 24), .ref (ad 45)])), ((ad 45), .inl (cJ, 60, .inr (.inl (fl 3)))), ((ad 46), .inr (4, [.int (vi 25), .int (vi 26), .ref (ad 47)])), ((ad 47), .inl (cJ, 60, .inr (.inl (fl 4)))), ((ad 48), .inr (4, [.int (vi 27), .int (vi 28), .ref (ad 49)])), ((ad 49), .inl (cJ, 60, .inr (.inl (fl 5)))), ((ad 50), .inr (4, [.int (vi 29), .int (vi 30), .ref (ad 51)])), ((ad 51), .inl (cJ, 60, .inr (.inl (fl 6))))] ++ (i0 ++ (i1 ++ i2)))
set_option maxRecDepth 100000 in
set_option maxHeartbeats 8000000 in
theorem IX_mk {cB cI cJ cZ cP cQ : ClassId} {h0 : Nat} {w : va_W} (h0_tape : Nat) (h0_tape_text : Nat) (h0_now : Nat) (h0_now_enter : Nat) (h0_now_leave : Nat) (h0_now_share : Nat) (h0_now_gift : Nat) (h0_now_wish : Nat) (h0_now_spread : Nat) (h0_now_leakBy : Nat) (h0_now_joint : Nat) (h0_now_part : Nat) (h0_draft : Nat) (h0_draft_enter : Nat) (h0_draft_leave : Nat) (h0_draft_share : Nat) (h0_draft_gift : Nat) (h0_draft_wish : Nat) (h0_draft_spread : Nat) (h0_draft_leakBy : Nat) (h0_draft_joint : Nat) (h0_draft_part : Nat) (h0_all : Nat) (h0_all_state : Nat) (h0_all_month : Nat) (h0_all_school : Nat) (h0_all_wage : Nat) (h0_all_gift : Nat) (h0_all_wish : Nat) (h0_world : Nat) (h0_world_state : Nat) (h0_world_month : Nat) (h0_world_school : Nat) (h0_world_wage : Nat) (h0_world_gift : Nat) (h0_world_wish : Nat) (h0_draws : Nat) (h0_split : Nat) (h0_grouped : Nat) (h0_grouped_size : Nat) (h0_grouped_school : Nat) (h0_grouped_wage : Nat) (h0_images : Nat) (h0_slots : Nat) (h0_slots_0 : Nat) (h0_slots_0_numbers : Nat) (h0_slots_1 : Nat) (h0_slots_1_numbers : Nat) (h0_slots_2 : Nat) (h0_slots_2_numbers : Nat) (h0_slots_3 : Nat) (h0_slots_3_numbers : Nat) (h0_tape_length : Int32) (h0_tape_fault : Int32) (h0_tape_place : Int32) (h0_tape_next : Int32) (h0_tape_kind : Int32) (h0_tape_start : Int32) (h0_tape_value : Int32) (h0_tape_text_f : Nat → Int32) (h0_now_lines : Int32) (h0_now_laws : Int32) (h0_now_sorts : Int32) (h0_now_shares : Int32) (h0_now_parts : Int32) (h0_now_noise : Int32) (h0_now_noiseTold : Int32) (h0_now_enter_f : Nat → Int32) (h0_now_leave_f : Nat → Int32) (h0_now_share_f : Nat → Int32) (h0_now_gift_f : Nat → Int32) (h0_now_wish_f : Nat → Int32) (h0_now_spread_f : Nat → Int32) (h0_now_leakBy_f : Nat → Int32) (h0_now_joint_f : Nat → Int32) (h0_now_part_f : Nat → Int32) (h0_draft_lines : Int32) (h0_draft_laws : Int32) (h0_draft_sorts : Int32) (h0_draft_shares : Int32) (h0_draft_parts : Int32) (h0_draft_noise : Int32) (h0_draft_noiseTold : Int32) (h0_draft_enter_f : Nat → Int32) (h0_draft_leave_f : Nat → Int32) (h0_draft_share_f : Nat → Int32) (h0_draft_gift_f : Nat → Int32) (h0_draft_wish_f : Nat → Int32) (h0_draft_spread_f : Nat → Int32) (h0_draft_leakBy_f : Nat → Int32) (h0_draft_joint_f : Nat → Int32) (h0_draft_part_f : Nat → Int32) (h0_all_n : Int32) (h0_all_state_f : Nat → Int32) (h0_all_month_f : Nat → Int32) (h0_all_school_f : Nat → Int32) (h0_all_wage_f : Nat → Int32) (h0_all_gift_f : Nat → Int32) (h0_all_wish_f : Nat → Int32) (h0_world_n : Int32) (h0_world_state_f : Nat → Int32) (h0_world_month_f : Nat → Int32) (h0_world_school_f : Nat → Int32) (h0_world_wage_f : Nat → Int32) (h0_world_gift_f : Nat → Int32) (h0_world_wish_f : Nat → Int32) (h0_draws_x : Int64) (h0_split_n : Int64) (h0_split_school : Int64) (h0_split_wage : Int64) (h0_split_gift : Int64) (h0_split_others : Int64) (h0_split_otherSchool : Int64) (h0_split_otherWage : Int64) (h0_split_otherGift : Int64) (h0_split_schoolSchool : Int64) (h0_split_schoolWage : Int64) (h0_split_wageWage : Int64) (h0_grouped_size_f : Nat → Int64) (h0_grouped_school_f : Nat → Int64) (h0_grouped_wage_f : Nat → Int64) (h0_images_f : Nat → Option Nat) (h0_slots_0_width : Int32) (h0_slots_0_n : Int32) (h0_slots_0_numbers_f : Nat → Int64) (h0_slots_1_width : Int32) (h0_slots_1_n : Int32) (h0_slots_1_numbers_f : Nat → Int64) (h0_slots_2_width : Int32) (h0_slots_2_n : Int32) (h0_slots_2_numbers_f : Nat → Int64) (h0_slots_3_width : Int32) (h0_slots_3_n : Int32) (h0_slots_3_numbers_f : Nat → Int64) (i0 i1 i2 : va_W) (t0 : 0 ≤ h0_tape_length.toInt) (t1 : h0_tape_length.toInt ≤ 600) (t2 : 0 ≤ h0_tape_next.toInt) (t3 : h0_tape_next.toInt ≤ 600) (t4 : 0 ≤ h0_tape_start.toInt) (t5 : h0_tape_start.toInt ≤ 600) (t6 : 0 ≤ h0_now_laws.toInt) (t7 : h0_now_laws.toInt ≤ 6) (t8 : 0 ≤ h0_now_sorts.toInt) (t9 : h0_now_sorts.toInt ≤ 8) (t10 : 0 ≤ h0_now_parts.toInt) (t11 : h0_now_parts.toInt ≤ 120) (t12 : 0 ≤ h0_now_noiseTold.toInt) (t13 : h0_now_noiseTold.toInt ≤ 1) (t14 : zR 0 240 h0_now_wish_f) (t15 : zR 0 60 h0_now_spread_f) (t16 : 0 ≤ h0_draft_laws.toInt) (t17 : h0_draft_laws.toInt ≤ 6) (t18 : 0 ≤ h0_draft_sorts.toInt) (t19 : h0_draft_sorts.toInt ≤ 8) (t20 : 0 ≤ h0_draft_parts.toInt) (t21 : h0_draft_parts.toInt ≤ 120) (t22 : 0 ≤ h0_draft_noiseTold.toInt) (t23 : h0_draft_noiseTold.toInt ≤ 1) (t24 : zR 0 240 h0_draft_wish_f) (t25 : zR 0 60 h0_draft_spread_f) (t26 : 0 ≤ h0_all_n.toInt) (t27 : h0_all_n.toInt ≤ 200) (t28 : zR 0 300 h0_all_school_f) (t29 : 0 ≤ h0_world_n.toInt) (t30 : h0_world_n.toInt ≤ 200) (t31 : zR 0 300 h0_world_school_f) (t32 : 0 ≤ h0_split_n.toInt) (t33 : 0 ≤ h0_split_others.toInt) (t34 : h0_split_n.toInt ≤ 200) (t35 : h0_split_others.toInt ≤ 200) (t36 : h0_split_n.toInt + h0_split_others.toInt ≤ 200) (t37 : 0 ≤ h0_split_school.toInt) (t38 : h0_split_school.toInt ≤ 300 * h0_split_n.toInt) (t39 : 0 ≤ h0_split_otherSchool.toInt) (t40 : h0_split_otherSchool.toInt ≤ 300 * h0_split_others.toInt) (t41 : 0 ≤ h0_split_schoolSchool.toInt) (t42 : h0_split_schoolSchool.toInt ≤ 90000 * (h0_split_n.toInt + h0_split_others.toInt)) (t43 : 0 ≤ h0_slots_0_n.toInt) (t44 : h0_slots_0_n.toInt ≤ 60) (t45 : 0 ≤ h0_slots_1_n.toInt) (t46 : h0_slots_1_n.toInt ≤ 60) (t47 : 0 ≤ h0_slots_2_n.toInt) (t48 : h0_slots_2_n.toInt ≤ 60) (t49 : 0 ≤ h0_slots_3_n.toInt) (t50 : h0_slots_3_n.toInt ≤ 60) (j0 : zIm cB cI cJ cZ cP cQ (h0_images_f 0) i0) (j1 : zIm cB cI cJ cZ cP cQ (h0_images_f 1) i1) (j2 : zIm cB cI cJ cZ cP cQ (h0_images_f 2) i2) (hw : w.Perm ([(h0, .inr (8, [.ref h0_tape, .ref h0_now, .ref h0_draft, .ref h0_all, .ref h0_world, .ref h0_draws, .ref h0_split, .ref h0_grouped, .ref h0_images, .ref h0_slots])), (h0_tape, .inr (7, [.ref h0_tape_text, .int h0_tape_length, .int h0_tape_fault, .int h0_tape_place, .int h0_tape_next, .int h0_tape_kind, .int h0_tape_start, .int h0_tape_value])), (h0_tape_text, .inl (cB, 600, .inl h0_tape_text_f)), (h0_now, .inr (3, [.int h0_now_lines, .int h0_now_laws, .int h0_now_sorts, .int h0_now_shares, .int h0_now_parts, .int h0_now_noise, .int h0_now_noiseTold, .ref h0_now_enter, .ref h0_now_leave, .ref h0_now_share, .ref h0_now_gift, .ref h0_now_wish, .ref h0_now_spread, .ref h0_now_leakBy, .ref h0_now_joint, .ref h0_now_part])), (h0_now_enter, .inl (cI, 6, .inl h0_now_enter_f)), (h0_now_leave, .inl (cI, 6, .inl h0_now_leave_f)), (h0_now_share, .inl (cI, 8, .inl h0_now_share_f)), (h0_now_gift, .inl (cI, 8, .inl h0_now_gift_f)), (h0_now_wish, .inl (cI, 8, .inl h0_now_wish_f)), (h0_now_spread, .inl (cI, 8, .inl h0_now_spread_f)), (h0_now_leakBy, .inl (cI, 13, .inl h0_now_leakBy_f)), (h0_now_joint, .inl (cI, 120, .inl h0_now_joint_f)), (h0_now_part, .inl (cI, 120, .inl h0_now_part_f)), (h0_draft, .inr (3, [.int h0_draft_lines, .int h0_draft_laws, .int h0_draft_sorts, .int h0_draft_shares, .int h0_draft_parts, .int h0_draft_noise, .int h0_draft_noiseTold, .ref h0_draft_enter, .ref h0_draft_leave, .ref h0_draft_share, .ref h0_draft_gift, .ref h0_draft_wish, .ref h0_draft_spread, .ref h0_draft_leakBy, .ref h0_draft_joint, .ref h0_draft_part])), (h0_draft_enter, .inl (cI, 6, .inl h0_draft_enter_f)), (h0_draft_leave, .inl (cI, 6, .inl h0_draft_leave_f)), (h0_draft_share, .inl (cI, 8, .inl h0_draft_share_f)), (h0_draft_gift, .inl (cI, 8, .inl h0_draft_gift_f)), (h0_draft_wish, .inl (cI, 8, .inl h0_draft_wish_f)), (h0_draft_spread, .inl (cI, 8, .inl h0_draft_spread_f)), (h0_draft_leakBy, .inl (cI, 13, .inl h0_draft_leakBy_f)), (h0_draft_joint, .inl (cI, 120, .inl h0_draft_joint_f)), (h0_draft_part, .inl (cI, 120, .inl h0_draft_part_f)), (h0_all, .inr (5, [.int h0_all_n, .ref h0_all_state, .ref h0_all_month, .ref h0_all_school, .ref h0_all_wage, .ref h0_all_gift, .ref h0_all_wish])), (h0_all_state, .inl (cI, 200, .inl h0_all_state_f)), (h0_all_month, .inl (cI, 200, .inl h0_all_month_f)), (h0_all_school, .inl (cI, 200, .inl h0_all_school_f)), (h0_all_wage, .inl (cI, 200, .inl h0_all_wage_f)), (h0_all_gift, .inl (cI, 200, .inl h0_all_gift_f)), (h0_all_wish, .inl (cI, 200, .inl h0_all_wish_f)), (h0_world, .inr (5, [.int h0_world_n, .ref h0_world_state, .ref h0_world_month, .ref h0_world_school, .ref h0_world_wage, .ref h0_world_gift, .ref h0_world_wish])), (h0_world_state, .inl (cI, 200, .inl h0_world_state_f)), (h0_world_month, .inl (cI, 200, .inl h0_world_month_f)), (h0_world_school, .inl (cI, 200, .inl h0_world_school_f)), (h0_world_wage, .inl (cI, 200, .inl h0_world_wage_f)), (h0_world_gift, .inl (cI, 200, .inl h0_world_gift_f)), (h0_world_wish, .inl (cI, 200, .inl h0_world_wish_f)), (h0_draws, .inr (0, [.long h0_draws_x])), (h0_split, .inr (6, [.long h0_split_n, .long h0_split_school, .long h0_split_wage, .long h0_split_gift, .long h0_split_others, .long h0_split_otherSchool, .long h0_split_otherWage, .long h0_split_otherGift, .long h0_split_schoolSchool, .long h0_split_schoolWage, .long h0_split_wageWage])), (h0_grouped, .inr (1, [.ref h0_grouped_size, .ref h0_grouped_school, .ref h0_grouped_wage])), (h0_grouped_size, .inl (cJ, 72, .inr (.inl h0_grouped_size_f))), (h0_grouped_school, .inl (cJ, 72, .inr (.inl h0_grouped_school_f))), (h0_grouped_wage, .inl (cJ, 72, .inr (.inl h0_grouped_wage_f))), (h0_images, .inl (cP, 3, .inr (.inr (.inr (.inr h0_images_f))))), (h0_slots, .inl (cQ, 4, .inr (.inr (.inr (.inr (zQ4 h0_slots_0 h0_slots_1 h0_slots_2 h0_slots_3)))))), (h0_slots_0, .inr (4, [.int h0_slots_0_width, .int h0_slots_0_n, .ref h0_slots_0_numbers])), (h0_slots_0_numbers, .inl (cJ, 60, .inr (.inl h0_slots_0_numbers_f))), (h0_slots_1, .inr (4, [.int h0_slots_1_width, .int h0_slots_1_n, .ref h0_slots_1_numbers])), (h0_slots_1_numbers, .inl (cJ, 60, .inr (.inl h0_slots_1_numbers_f))), (h0_slots_2, .inr (4, [.int h0_slots_2_width, .int h0_slots_2_n, .ref h0_slots_2_numbers])), (h0_slots_2_numbers, .inl (cJ, 60, .inr (.inl h0_slots_2_numbers_f))), (h0_slots_3, .inr (4, [.int h0_slots_3_width, .int h0_slots_3_n, .ref h0_slots_3_numbers])), (h0_slots_3_numbers, .inl (cJ, 60, .inr (.inl h0_slots_3_numbers_f)))] ++ (i0 ++ (i1 ++ i2)))) : IX cB cI cJ cZ cP cQ h0 w := ⟨fun k => ([h0_tape, h0_tape_text, h0_now, h0_now_enter, h0_now_leave, h0_now_share, h0_now_gift, h0_now_wish, h0_now_spread, h0_now_leakBy, h0_now_joint, h0_now_part, h0_draft, h0_draft_enter, h0_draft_leave, h0_draft_share, h0_draft_gift, h0_draft_wish, h0_draft_spread, h0_draft_leakBy, h0_draft_joint, h0_draft_part, h0_all, h0_all_state, h0_all_month, h0_all_school, h0_all_wage, h0_all_gift, h0_all_wish, h0_world, h0_world_state, h0_world_month, h0_world_school, h0_world_wage, h0_world_gift, h0_world_wish, h0_draws, h0_split, h0_grouped, h0_grouped_size, h0_grouped_school, h0_grouped_wage, h0_images, h0_slots, h0_slots_0, h0_slots_0_numbers, h0_slots_1, h0_slots_1_numbers, h0_slots_2, h0_slots_2_numbers, h0_slots_3, h0_slots_3_numbers] : List Nat).getD k 0, fun k => ([h0_tape_length, h0_tape_fault, h0_tape_place, h0_tape_next, h0_tape_kind, h0_tape_start, h0_tape_value, h0_now_lines, h0_now_laws, h0_now_sorts, h0_now_shares, h0_now_parts, h0_now_noise, h0_now_noiseTold, h0_draft_lines, h0_draft_laws, h0_draft_sorts, h0_draft_shares, h0_draft_parts, h0_draft_noise, h0_draft_noiseTold, h0_all_n, h0_world_n, h0_slots_0_width, h0_slots_0_n, h0_slots_1_width, h0_slots_1_n, h0_slots_2_width, h0_slots_2_n, h0_slots_3_width, h0_slots_3_n] : List Int32).getD k 0, fun k => ([h0_tape_text_f, h0_now_enter_f, h0_now_leave_f, h0_now_share_f, h0_now_gift_f, h0_now_wish_f, h0_now_spread_f, h0_now_leakBy_f, h0_now_joint_f, h0_now_part_f, h0_draft_enter_f, h0_draft_leave_f, h0_draft_share_f, h0_draft_gift_f, h0_draft_wish_f, h0_draft_spread_f, h0_draft_leakBy_f, h0_draft_joint_f, h0_draft_part_f, h0_all_state_f, h0_all_month_f, h0_all_school_f, h0_all_wage_f, h0_all_gift_f, h0_all_wish_f, h0_world_state_f, h0_world_month_f, h0_world_school_f, h0_world_wage_f, h0_world_gift_f, h0_world_wish_f] : List (Nat → Int32)).getD k (fun _ => 0), fun k => ([h0_draws_x, h0_split_n, h0_split_school, h0_split_wage, h0_split_gift, h0_split_others, h0_split_otherSchool, h0_split_otherWage, h0_split_otherGift, h0_split_schoolSchool, h0_split_schoolWage, h0_split_wageWage] : List Int64).getD k 0, fun k => ([h0_grouped_size_f, h0_grouped_school_f, h0_grouped_wage_f, h0_slots_0_numbers_f, h0_slots_1_numbers_f, h0_slots_2_numbers_f, h0_slots_3_numbers_f] : List (Nat → Int64)).getD k (fun _ => 0), fun k => ([h0_images_f] : List (Nat → Option Nat)).getD k (fun _ => none), i0, i1, i2, ⟨t0, t1, t2, t3, t4, t5, t6, t7, t8, t9, t10, t11, t12, t13, t14, t15, t16, t17, t18, t19, t20, t21, t22, t23, t24, t25, t26, t27, t28, t29, t30, t31, t32, t33, t34, t35, t36, t37, t38, t39, t40, t41, t42, t43, t44, t45, t46, t47, t48, t49, t50⟩, j0, j1, j2, hw⟩
set_option maxRecDepth 100000 in
set_option maxHeartbeats 8000000 in
def IM (cB cI cJ cZ cP cQ : ClassId) (h0 : Nat) (w : va_W) : Prop := ∃ (ad : Nat → Nat) (vi : Nat → Int32) (vl : Nat → Int64) (fi : Nat → (Nat → Int32)) (fl : Nat → (Nat → Int64)), (0 ≤ ((vi 1).toInt) ∧ ((vi 1).toInt) ≤ 600 ∧ 0 ≤ ((vl 1).toInt) ∧ ((vl 1).toInt) ≤ 2147483647 ∧ 0 ≤ ((vi 6).toInt) ∧ ((vi 6).toInt) ≤ 3 ∧ (zR 0 60 (fi 1)) ∧ (zR 0 6 (fi 4)) ∧ (zR 0 8 (fi 7)) ∧ (zR 0 99 (fi 8)) ∧ (zR 0 240 (fi 10)) ∧ (zR 0 60 (fi 11)) ∧ (zR 0 999 (fi 16)) ∧ (zR 0 320 (fi 18)) ∧ (zR (-4) 1004 (fi 19)) ∧ (zR 0 200 (fi 21)) ∧ (zR 0 5 (fi 22)) ∧ (zR 0 300 (fi 24)) ∧ zMo (fi 21) (fi 23) ∧ zSh (fi 7) (fi 8) ∧ zCo (fi 18) (fi 19)) ∧ w.Perm ([(h0, .inr (9, [.int (vi 0), .ref (ad 0), .ref (ad 1), .ref (ad 2), .ref (ad 3), .ref (ad 4), .int (vi 1), .int (vi 2), .int (vi 3), .int (vi 4), .int (vi 5), .long (vl 0), .int (vi 6), .int (vi 7), .int (vi 8), .int (vi 9), .ref (ad 5), .ref (ad 6), .ref (ad 7), .ref (ad 8), .ref (ad 9), .ref (ad 10), .ref (ad 11), .ref (ad 12), .ref (ad 13), .ref (ad 14), .ref (ad 15), .ref (ad 16), .ref (ad 17), .ref (ad 18), .ref (ad 19), .ref (ad 20), .ref (ad 21), .ref (ad 22), .ref (ad 23), .ref (ad 24), .ref (ad 25), .ref (ad 26), .ref (ad 27), .ref (ad 28), .ref (ad 29), .ref (ad 30), .long (vl 1), .int (vi 10), .long (vl 2), .long (vl 3), .long (vl 4), .long (vl 5), .long (vl 6), .long (vl 7), .long (vl 8), .long (vl 9), .ref (ad 31), .int (vi 11), .ref (ad 32), .ref (ad 33), .ref (ad 34), .long (vl 10), .long (vl 11), .ref (ad 35)])), ((ad 0), .inl (cI, 4, .inl (fi 0))), ((ad 1), .inl (cI, 4, .inl (fi 1))), ((ad 2), .inl (cJ, 240, .inr (.inl (fl 0)))), ((ad 3), .inl (cJ, 60, .inr (.inl (fl 1)))), ((ad 4), .inl (cB, 600, .inl (fi 2))), ((ad 5), .inl (cI, 5, .inl (fi 3))), ((ad 6), .inl (cI, 5, .inl (fi 4))), ((ad 7), .inl (cI, 30, .inl (fi 5))), ((ad 8), .inl (cI, 30, .inl (fi 6))), ((ad 9), .inl (cI, 5, .inl (fi 7))), ((ad 10), .inl (cI, 40, .inl (fi 8))), ((ad 11), .inl (cI, 40, .inl (fi 9))), ((ad 12), .inl (cI, 40, .inl (fi 10))), ((ad 13), .inl (cI, 40, .inl (fi 11))), ((ad 14), .inl (cZ, 60, .inl (fi 12))), ((ad 15), .inl (cI, 60, .inl (fi 13))), ((ad 16), .inl (cZ, 5, .inl (fi 14))), ((ad 17), .inl (cZ, 5, .inl (fi 15))), ((ad 18), .inl (cI, 5, .inl (fi 16))), ((ad 19), .inl (cI, 5, .inl (fi 17))), ((ad 20), .inl (cI, 5, .inl (fi 18))), ((ad 21), .inl (cI, 1600, .inl (fi 19))), ((ad 22), .inl (cZ, 3, .inl (fi 20))), ((ad 23), .inl (cJ, 320, .inr (.inl (fl 2)))), ((ad 24), .inl (cI, 5, .inl (fi 21))), ((ad 25), .inl (cI, 1000, .inl (fi 22))), ((ad 26), .inl (cI, 1000, .inl (fi 23))), ((ad 27), .inl (cI, 1000, .inl (fi 24))), ((ad 28), .inl (cI, 1000, .inl (fi 25))), ((ad 29), .inl (cI, 1000, .inl (fi 26))), ((ad 30), .inl (cI, 1000, .inl (fi 27))), ((ad 31), .inl (cZ, 200, .inl (fi 28))), ((ad 32), .inl (cJ, 72, .inr (.inl (fl 3)))), ((ad 33), .inl (cJ, 72, .inr (.inl (fl 4)))), ((ad 34), .inl (cJ, 72, .inr (.inl (fl 5)))), ((ad 35), .inl (cZ, 199, .inl (fi 29)))] ++ [])
set_option maxRecDepth 100000 in
set_option maxHeartbeats 8000000 in
theorem IM_mk {cB cI cJ cZ cP cQ : ClassId} {h0 : Nat} {w : va_W} (h0_width : Nat) (h0_many : Nat) (h0_cells : Nat) (h0_moved : Nat) (h0_tape : Nat) (h0_lines : Nat) (h0_laws : Nat) (h0_enter : Nat) (h0_leave : Nat) (h0_sorts : Nat) (h0_share : Nat) (h0_giftOf : Nat) (h0_wishOf : Nat) (h0_spread : Nat) (h0_leaks : Nat) (h0_leakBy : Nat) (h0_hasWage : Nat) (h0_hasNoise : Nat) (h0_noise : Nat) (h0_parts : Nat) (h0_coded : Nat) (h0_codes : Nat) (h0_isKept : Nat) (h0_stack : Nat) (h0_sheets : Nat) (h0_stateAt : Nat) (h0_monthAt : Nat) (h0_schoolAt : Nat) (h0_wageAt : Nat) (h0_giftAt : Nat) (h0_wishAt : Nat) (h0_isMoved : Nat) (h0_groupN : Nat) (h0_groupS : Nat) (h0_groupW : Nat) (h0_isIn : Nat) (h0_thrown : Int32) (h0_taped : Int32) (h0_at : Int32) (h0_token : Int32) (h0_place : Int32) (h0_value : Int32) (h0_word : Int64) (h0_bad : Int32) (h0_badPlace : Int32) (h0_fault : Int32) (h0_faultPlace : Int32) (h0_x : Int64) (h0_upTo : Int32) (h0_n : Int64) (h0_m : Int64) (h0_s : Int64) (h0_t : Int64) (h0_w : Int64) (h0_v : Int64) (h0_square : Int64) (h0_both : Int64) (h0_isTold : Int32) (h0_spanD : Int64) (h0_spanQ : Int64) (h0_width_f : Nat → Int32) (h0_many_f : Nat → Int32) (h0_cells_f : Nat → Int64) (h0_moved_f : Nat → Int64) (h0_tape_f : Nat → Int32) (h0_lines_f : Nat → Int32) (h0_laws_f : Nat → Int32) (h0_enter_f : Nat → Int32) (h0_leave_f : Nat → Int32) (h0_sorts_f : Nat → Int32) (h0_share_f : Nat → Int32) (h0_giftOf_f : Nat → Int32) (h0_wishOf_f : Nat → Int32) (h0_spread_f : Nat → Int32) (h0_leaks_f : Nat → Int32) (h0_leakBy_f : Nat → Int32) (h0_hasWage_f : Nat → Int32) (h0_hasNoise_f : Nat → Int32) (h0_noise_f : Nat → Int32) (h0_parts_f : Nat → Int32) (h0_coded_f : Nat → Int32) (h0_codes_f : Nat → Int32) (h0_isKept_f : Nat → Int32) (h0_stack_f : Nat → Int64) (h0_sheets_f : Nat → Int32) (h0_stateAt_f : Nat → Int32) (h0_monthAt_f : Nat → Int32) (h0_schoolAt_f : Nat → Int32) (h0_wageAt_f : Nat → Int32) (h0_giftAt_f : Nat → Int32) (h0_wishAt_f : Nat → Int32) (h0_isMoved_f : Nat → Int32) (h0_groupN_f : Nat → Int64) (h0_groupS_f : Nat → Int64) (h0_groupW_f : Nat → Int64) (h0_isIn_f : Nat → Int32) (t0 : 0 ≤ h0_taped.toInt) (t1 : h0_taped.toInt ≤ 600) (t2 : 0 ≤ h0_x.toInt) (t3 : h0_x.toInt ≤ 2147483647) (t4 : 0 ≤ h0_bad.toInt) (t5 : h0_bad.toInt ≤ 3) (t6 : zR 0 60 h0_many_f) (t7 : zR 0 6 h0_laws_f) (t8 : zR 0 8 h0_sorts_f) (t9 : zR 0 99 h0_share_f) (t10 : zR 0 240 h0_wishOf_f) (t11 : zR 0 60 h0_spread_f) (t12 : zR 0 999 h0_noise_f) (t13 : zR 0 320 h0_coded_f) (t14 : zR (-4) 1004 h0_codes_f) (t15 : zR 0 200 h0_sheets_f) (t16 : zR 0 5 h0_stateAt_f) (t17 : zR 0 300 h0_schoolAt_f) (t18 : zMo h0_sheets_f h0_monthAt_f) (t19 : zSh h0_sorts_f h0_share_f) (t20 : zCo h0_coded_f h0_codes_f) (hw : w.Perm ([(h0, .inr (9, [.int h0_thrown, .ref h0_width, .ref h0_many, .ref h0_cells, .ref h0_moved, .ref h0_tape, .int h0_taped, .int h0_at, .int h0_token, .int h0_place, .int h0_value, .long h0_word, .int h0_bad, .int h0_badPlace, .int h0_fault, .int h0_faultPlace, .ref h0_lines, .ref h0_laws, .ref h0_enter, .ref h0_leave, .ref h0_sorts, .ref h0_share, .ref h0_giftOf, .ref h0_wishOf, .ref h0_spread, .ref h0_leaks, .ref h0_leakBy, .ref h0_hasWage, .ref h0_hasNoise, .ref h0_noise, .ref h0_parts, .ref h0_coded, .ref h0_codes, .ref h0_isKept, .ref h0_stack, .ref h0_sheets, .ref h0_stateAt, .ref h0_monthAt, .ref h0_schoolAt, .ref h0_wageAt, .ref h0_giftAt, .ref h0_wishAt, .long h0_x, .int h0_upTo, .long h0_n, .long h0_m, .long h0_s, .long h0_t, .long h0_w, .long h0_v, .long h0_square, .long h0_both, .ref h0_isMoved, .int h0_isTold, .ref h0_groupN, .ref h0_groupS, .ref h0_groupW, .long h0_spanD, .long h0_spanQ, .ref h0_isIn])), (h0_width, .inl (cI, 4, .inl h0_width_f)), (h0_many, .inl (cI, 4, .inl h0_many_f)), (h0_cells, .inl (cJ, 240, .inr (.inl h0_cells_f))), (h0_moved, .inl (cJ, 60, .inr (.inl h0_moved_f))), (h0_tape, .inl (cB, 600, .inl h0_tape_f)), (h0_lines, .inl (cI, 5, .inl h0_lines_f)), (h0_laws, .inl (cI, 5, .inl h0_laws_f)), (h0_enter, .inl (cI, 30, .inl h0_enter_f)), (h0_leave, .inl (cI, 30, .inl h0_leave_f)), (h0_sorts, .inl (cI, 5, .inl h0_sorts_f)), (h0_share, .inl (cI, 40, .inl h0_share_f)), (h0_giftOf, .inl (cI, 40, .inl h0_giftOf_f)), (h0_wishOf, .inl (cI, 40, .inl h0_wishOf_f)), (h0_spread, .inl (cI, 40, .inl h0_spread_f)), (h0_leaks, .inl (cZ, 60, .inl h0_leaks_f)), (h0_leakBy, .inl (cI, 60, .inl h0_leakBy_f)), (h0_hasWage, .inl (cZ, 5, .inl h0_hasWage_f)), (h0_hasNoise, .inl (cZ, 5, .inl h0_hasNoise_f)), (h0_noise, .inl (cI, 5, .inl h0_noise_f)), (h0_parts, .inl (cI, 5, .inl h0_parts_f)), (h0_coded, .inl (cI, 5, .inl h0_coded_f)), (h0_codes, .inl (cI, 1600, .inl h0_codes_f)), (h0_isKept, .inl (cZ, 3, .inl h0_isKept_f)), (h0_stack, .inl (cJ, 320, .inr (.inl h0_stack_f))), (h0_sheets, .inl (cI, 5, .inl h0_sheets_f)), (h0_stateAt, .inl (cI, 1000, .inl h0_stateAt_f)), (h0_monthAt, .inl (cI, 1000, .inl h0_monthAt_f)), (h0_schoolAt, .inl (cI, 1000, .inl h0_schoolAt_f)), (h0_wageAt, .inl (cI, 1000, .inl h0_wageAt_f)), (h0_giftAt, .inl (cI, 1000, .inl h0_giftAt_f)), (h0_wishAt, .inl (cI, 1000, .inl h0_wishAt_f)), (h0_isMoved, .inl (cZ, 200, .inl h0_isMoved_f)), (h0_groupN, .inl (cJ, 72, .inr (.inl h0_groupN_f))), (h0_groupS, .inl (cJ, 72, .inr (.inl h0_groupS_f))), (h0_groupW, .inl (cJ, 72, .inr (.inl h0_groupW_f))), (h0_isIn, .inl (cZ, 199, .inl h0_isIn_f))] ++ [])) : IM cB cI cJ cZ cP cQ h0 w := ⟨fun k => ([h0_width, h0_many, h0_cells, h0_moved, h0_tape, h0_lines, h0_laws, h0_enter, h0_leave, h0_sorts, h0_share, h0_giftOf, h0_wishOf, h0_spread, h0_leaks, h0_leakBy, h0_hasWage, h0_hasNoise, h0_noise, h0_parts, h0_coded, h0_codes, h0_isKept, h0_stack, h0_sheets, h0_stateAt, h0_monthAt, h0_schoolAt, h0_wageAt, h0_giftAt, h0_wishAt, h0_isMoved, h0_groupN, h0_groupS, h0_groupW, h0_isIn] : List Nat).getD k 0, fun k => ([h0_thrown, h0_taped, h0_at, h0_token, h0_place, h0_value, h0_bad, h0_badPlace, h0_fault, h0_faultPlace, h0_upTo, h0_isTold] : List Int32).getD k 0, fun k => ([h0_word, h0_x, h0_n, h0_m, h0_s, h0_t, h0_w, h0_v, h0_square, h0_both, h0_spanD, h0_spanQ] : List Int64).getD k 0, fun k => ([h0_width_f, h0_many_f, h0_tape_f, h0_lines_f, h0_laws_f, h0_enter_f, h0_leave_f, h0_sorts_f, h0_share_f, h0_giftOf_f, h0_wishOf_f, h0_spread_f, h0_leaks_f, h0_leakBy_f, h0_hasWage_f, h0_hasNoise_f, h0_noise_f, h0_parts_f, h0_coded_f, h0_codes_f, h0_isKept_f, h0_sheets_f, h0_stateAt_f, h0_monthAt_f, h0_schoolAt_f, h0_wageAt_f, h0_giftAt_f, h0_wishAt_f, h0_isMoved_f, h0_isIn_f] : List (Nat → Int32)).getD k (fun _ => 0), fun k => ([h0_cells_f, h0_moved_f, h0_stack_f, h0_groupN_f, h0_groupS_f, h0_groupW_f] : List (Nat → Int64)).getD k (fun _ => 0), ⟨t0, t1, t2, t3, t4, t5, t6, t7, t8, t9, t10, t11, t12, t13, t14, t15, t16, t17, t18, t19, t20⟩, hw⟩
set_option maxRecDepth 100000 in
theorem IX_recv {cB cI cJ cZ cP cQ : ClassId} {h : Nat} {w : va_W} (hI : IX cB cI cJ cZ cP cQ h w) : ∃ (k : Nat) (fs : List Value), w[k]? = some (h, .inr (8, fs)) := by
  obtain ⟨_, _, _, _, _, _, _, _, _, _, _, _, _, hw⟩ := hI
  obtain ⟨i, hi⟩ := List.mem_iff_getElem?.mp (hw.mem_iff.mpr (List.mem_append_left _ List.mem_cons_self))
  exact ⟨i, _, hi⟩
set_option maxRecDepth 100000 in
theorem IM_recv {cB cI cJ cZ cP cQ : ClassId} {h : Nat} {w : va_W} (hI : IM cB cI cJ cZ cP cQ h w) : ∃ (k : Nat) (fs : List Value), w[k]? = some (h, .inr (9, fs)) := by
  obtain ⟨_, _, _, _, _, _, hw⟩ := hI
  obtain ⟨i, hi⟩ := List.mem_iff_getElem?.mp (hw.mem_iff.mpr (List.mem_append_left _ List.mem_cons_self))
  exact ⟨i, _, hi⟩
theorem k_X8_land (l : Launch) (dC : Nat → ClassId) (dI : Nat → Nat → Nat) (cB cI cJ cZ cP cQ : ClassId) (adK adV : Nat → Nat) (q0 : Option Nat) (h0 : Nat) (h0_tape : Nat) (h0_now : Nat) (h0_draft : Nat) (h0_all : Nat) (h0_world : Nat) (h0_draws : Nat) (h0_split : Nat) (h0_grouped : Nat) (h0_images : Nat) (h0_slots : Nat) (h0_tape_text : Nat) (h0_draft_enter : Nat) (h0_draft_leave : Nat) (h0_draft_share : Nat) (h0_draft_gift : Nat) (h0_draft_wish : Nat) (h0_draft_spread : Nat) (h0_draft_leakBy : Nat) (h0_draft_joint : Nat) (h0_draft_part : Nat) (sz : Nat) (h0_tape_length : Int32) (h0_tape_fault : Int32) (h0_tape_place : Int32) (h0_tape_next : Int32) (h0_tape_kind : Int32) (h0_tape_start : Int32) (h0_tape_value : Int32) (h0_tape_text_f : Nat → Int32) (h0_draft_lines : Int32) (h0_draft_laws : Int32) (h0_draft_sorts : Int32) (h0_draft_shares : Int32) (h0_draft_parts : Int32) (h0_draft_noise : Int32) (h0_draft_noiseTold : Int32) (h0_draft_enter_f : Nat → Int32) (h0_draft_leave_f : Nat → Int32) (h0_draft_share_f : Nat → Int32) (h0_draft_gift_f : Nat → Int32) (h0_draft_wish_f : Nat → Int32) (h0_draft_spread_f : Nat → Int32) (h0_draft_leakBy_f : Nat → Int32) (h0_draft_joint_f : Nat → Int32) (h0_draft_part_f : Nat → Int32) (e0 : 0 ≤ h0_tape_length.toInt) (e1 : h0_tape_length.toInt ≤ 600) (e2 : 0 ≤ h0_tape_next.toInt) (e3 : h0_tape_next.toInt ≤ 600) (e4 : 0 ≤ h0_tape_start.toInt) (e5 : h0_tape_start.toInt ≤ 600) (e6 : 0 ≤ h0_draft_laws.toInt) (e7 : h0_draft_laws.toInt ≤ 6) (e8 : 0 ≤ h0_draft_sorts.toInt) (e9 : h0_draft_sorts.toInt ≤ 8) (e10 : 0 ≤ h0_draft_parts.toInt) (e11 : h0_draft_parts.toInt ≤ 120) (e12 : 0 ≤ h0_draft_noiseTold.toInt) (e13 : h0_draft_noiseTold.toInt ≤ 1) (z_h0_draft_wish : zR 0 240 h0_draft_wish_f) (z_h0_draft_spread : zR 0 60 h0_draft_spread_f) : Met l yX8_land wsX8_land ({ frames := 10, cells := 0, slots := 0, locals := 270 } : Room) (sPc [.ref h0] (dC, dI) (zT cB cI cJ cZ cP cQ) [(h0, .inr (8, [.ref h0_tape, .ref h0_now, .ref h0_draft, .ref h0_all, .ref h0_world, .ref h0_draws, .ref h0_split, .ref h0_grouped, .ref h0_images, .ref h0_slots])), (h0_tape, .inr (7, [.ref h0_tape_text, .int h0_tape_length, .int h0_tape_fault, .int h0_tape_place, .int h0_tape_next, .int h0_tape_kind, .int h0_tape_start, .int h0_tape_value])), (h0_tape_text, .inl (cB, 600, .inl h0_tape_text_f)), (h0_draft, .inr (3, [.int h0_draft_lines, .int h0_draft_laws, .int h0_draft_sorts, .int h0_draft_shares, .int h0_draft_parts, .int h0_draft_noise, .int h0_draft_noiseTold, .ref h0_draft_enter, .ref h0_draft_leave, .ref h0_draft_share, .ref h0_draft_gift, .ref h0_draft_wish, .ref h0_draft_spread, .ref h0_draft_leakBy, .ref h0_draft_joint, .ref h0_draft_part])), (h0_draft_enter, .inl (cI, 6, .inl h0_draft_enter_f)), (h0_draft_leave, .inl (cI, 6, .inl h0_draft_leave_f)), (h0_draft_share, .inl (cI, 8, .inl h0_draft_share_f)), (h0_draft_gift, .inl (cI, 8, .inl h0_draft_gift_f)), (h0_draft_wish, .inl (cI, 8, .inl h0_draft_wish_f)), (h0_draft_spread, .inl (cI, 8, .inl h0_draft_spread_f)), (h0_draft_leakBy, .inl (cI, 13, .inl h0_draft_leakBy_f)), (h0_draft_joint, .inl (cI, 120, .inl h0_draft_joint_f)), (h0_draft_part, .inl (cI, 120, .inl h0_draft_part_f))] sz [(RX3, 74, yX8_isMonth, "MonthPush")] [] adK adV q0) (va_Qi (fun (r : Int32) (u : Nat × Nat × Int32 × Int32 × Int32 × Int32 × Int32 × Int32 × Int32 × Int32 × Int32 × Int32 × Int32 × Int32 × Int32 × Int32 × (Nat → Int32) × (Nat → Int32) × (Nat → Int32) × (Nat → Int32) × (Nat → Int32) × (Nat → Int32) × (Nat → Int32) × (Nat → Int32) × (Nat → Int32)) => 0 ≤ u.2.2.1.toInt ∧ u.2.2.1.toInt ≤ 600 ∧ 0 ≤ u.2.2.2.2.2.1.toInt ∧ u.2.2.2.2.2.1.toInt ≤ 600 ∧ 0 ≤ u.2.2.2.2.2.2.2.1.toInt ∧ u.2.2.2.2.2.2.2.1.toInt ≤ 600 ∧ 0 ≤ u.2.2.2.2.2.2.2.2.2.2.1.toInt ∧ u.2.2.2.2.2.2.2.2.2.2.1.toInt ≤ 6 ∧ 0 ≤ u.2.2.2.2.2.2.2.2.2.2.2.1.toInt ∧ u.2.2.2.2.2.2.2.2.2.2.2.1.toInt ≤ 8 ∧ 0 ≤ u.2.2.2.2.2.2.2.2.2.2.2.2.2.1.toInt ∧ u.2.2.2.2.2.2.2.2.2.2.2.2.2.1.toInt ≤ 120 ∧ 0 ≤ u.2.2.2.2.2.2.2.2.2.2.2.2.2.2.2.1.toInt ∧ u.2.2.2.2.2.2.2.2.2.2.2.2.2.2.2.1.toInt ≤ 1 ∧ zR 0 240 u.2.2.2.2.2.2.2.2.2.2.2.2.2.2.2.2.2.2.2.2.1 ∧ zR 0 60 u.2.2.2.2.2.2.2.2.2.2.2.2.2.2.2.2.2.2.2.2.2.1 ∧ ((u.1 = h0_now ∧ u.2.1 = h0_draft) ∨ (u.1 = h0_draft ∧ u.2.1 = h0_now))) (zB (dC, dI) (zT cB cI cJ cZ cP cQ) (fun u : Nat × Nat × Int32 × Int32 × Int32 × Int32 × Int32 × Int32 × Int32 × Int32 × Int32 × Int32 × Int32 × Int32 × Int32 × Int32 × (Nat → Int32) × (Nat → Int32) × (Nat → Int32) × (Nat → Int32) × (Nat → Int32) × (Nat → Int32) × (Nat → Int32) × (Nat → Int32) × (Nat → Int32) => [(h0, .inr (8, [.ref h0_tape, .ref u.1, .ref u.2.1, .ref h0_all, .ref h0_world, .ref h0_draws, .ref h0_split, .ref h0_grouped, .ref h0_images, .ref h0_slots])), (h0_tape, .inr (7, [.ref h0_tape_text, .int u.2.2.1, .int u.2.2.2.1, .int u.2.2.2.2.1, .int u.2.2.2.2.2.1, .int u.2.2.2.2.2.2.1, .int u.2.2.2.2.2.2.2.1, .int u.2.2.2.2.2.2.2.2.1])), (h0_tape_text, .inl (cB, 600, .inl h0_tape_text_f)), (h0_draft, .inr (3, [.int u.2.2.2.2.2.2.2.2.2.1, .int u.2.2.2.2.2.2.2.2.2.2.1, .int u.2.2.2.2.2.2.2.2.2.2.2.1, .int u.2.2.2.2.2.2.2.2.2.2.2.2.1, .int u.2.2.2.2.2.2.2.2.2.2.2.2.2.1, .int u.2.2.2.2.2.2.2.2.2.2.2.2.2.2.1, .int u.2.2.2.2.2.2.2.2.2.2.2.2.2.2.2.1, .ref h0_draft_enter, .ref h0_draft_leave, .ref h0_draft_share, .ref h0_draft_gift, .ref h0_draft_wish, .ref h0_draft_spread, .ref h0_draft_leakBy, .ref h0_draft_joint, .ref h0_draft_part])), (h0_draft_enter, .inl (cI, 6, .inl u.2.2.2.2.2.2.2.2.2.2.2.2.2.2.2.2.1)), (h0_draft_leave, .inl (cI, 6, .inl u.2.2.2.2.2.2.2.2.2.2.2.2.2.2.2.2.2.1)), (h0_draft_share, .inl (cI, 8, .inl u.2.2.2.2.2.2.2.2.2.2.2.2.2.2.2.2.2.2.1)), (h0_draft_gift, .inl (cI, 8, .inl u.2.2.2.2.2.2.2.2.2.2.2.2.2.2.2.2.2.2.2.1)), (h0_draft_wish, .inl (cI, 8, .inl u.2.2.2.2.2.2.2.2.2.2.2.2.2.2.2.2.2.2.2.2.1)), (h0_draft_spread, .inl (cI, 8, .inl u.2.2.2.2.2.2.2.2.2.2.2.2.2.2.2.2.2.2.2.2.2.1)), (h0_draft_leakBy, .inl (cI, 13, .inl u.2.2.2.2.2.2.2.2.2.2.2.2.2.2.2.2.2.2.2.2.2.2.1)), (h0_draft_joint, .inl (cI, 120, .inl u.2.2.2.2.2.2.2.2.2.2.2.2.2.2.2.2.2.2.2.2.2.2.2.1)), (h0_draft_part, .inl (cI, 120, .inl u.2.2.2.2.2.2.2.2.2.2.2.2.2.2.2.2.2.2.2.2.2.2.2.2))]) [(h0, .inr (8, [.ref h0_tape, .ref h0_now, .ref h0_draft, .ref h0_all, .ref h0_world, .ref h0_draws, .ref h0_split, .ref h0_grouped, .ref h0_images, .ref h0_slots])), (h0_tape, .inr (7, [.ref h0_tape_text, .int h0_tape_length, .int h0_tape_fault, .int h0_tape_place, .int h0_tape_next, .int h0_tape_kind, .int h0_tape_start, .int h0_tape_value])), (h0_tape_text, .inl (cB, 600, .inl h0_tape_text_f)), (h0_draft, .inr (3, [.int h0_draft_lines, .int h0_draft_laws, .int h0_draft_sorts, .int h0_draft_shares, .int h0_draft_parts, .int h0_draft_noise, .int h0_draft_noiseTold, .ref h0_draft_enter, .ref h0_draft_leave, .ref h0_draft_share, .ref h0_draft_gift, .ref h0_draft_wish, .ref h0_draft_spread, .ref h0_draft_leakBy, .ref h0_draft_joint, .ref h0_draft_part])), (h0_draft_enter, .inl (cI, 6, .inl h0_draft_enter_f)), (h0_draft_leave, .inl (cI, 6, .inl h0_draft_leave_f)), (h0_draft_share, .inl (cI, 8, .inl h0_draft_share_f)), (h0_draft_gift, .inl (cI, 8, .inl h0_draft_gift_f)), (h0_draft_wish, .inl (cI, 8, .inl h0_draft_wish_f)), (h0_draft_spread, .inl (cI, 8, .inl h0_draft_spread_f)), (h0_draft_leakBy, .inl (cI, 13, .inl h0_draft_leakBy_f)), (h0_draft_joint, .inl (cI, 120, .inl h0_draft_joint_f)), (h0_draft_part, .inl (cI, 120, .inl h0_draft_part_f))] sz) (va_A [(h0, .inr (8, [.ref h0_tape, .ref h0_now, .ref h0_draft, .ref h0_all, .ref h0_world, .ref h0_draws, .ref h0_split, .ref h0_grouped, .ref h0_images, .ref h0_slots])), (h0_tape, .inr (7, [.ref h0_tape_text, .int h0_tape_length, .int h0_tape_fault, .int h0_tape_place, .int h0_tape_next, .int h0_tape_kind, .int h0_tape_start, .int h0_tape_value])), (h0_tape_text, .inl (cB, 600, .inl h0_tape_text_f)), (h0_draft, .inr (3, [.int h0_draft_lines, .int h0_draft_laws, .int h0_draft_sorts, .int h0_draft_shares, .int h0_draft_parts, .int h0_draft_noise, .int h0_draft_noiseTold, .ref h0_draft_enter, .ref h0_draft_leave, .ref h0_draft_share, .ref h0_draft_gift, .ref h0_draft_wish, .ref h0_draft_spread, .ref h0_draft_leakBy, .ref h0_draft_joint, .ref h0_draft_part])), (h0_draft_enter, .inl (cI, 6, .inl h0_draft_enter_f)), (h0_draft_leave, .inl (cI, 6, .inl h0_draft_leave_f)), (h0_draft_share, .inl (cI, 8, .inl h0_draft_share_f)), (h0_draft_gift, .inl (cI, 8, .inl h0_draft_gift_f)), (h0_draft_wish, .inl (cI, 8, .inl h0_draft_wish_f)), (h0_draft_spread, .inl (cI, 8, .inl h0_draft_spread_f)), (h0_draft_leakBy, .inl (cI, 13, .inl h0_draft_leakBy_f)), (h0_draft_joint, .inl (cI, 120, .inl h0_draft_joint_f)), (h0_draft_part, .inl (cI, 120, .inl h0_draft_part_f))] sz)) 0 0 (va_A [(h0, .inr (8, [.ref h0_tape, .ref h0_now, .ref h0_draft, .ref h0_all, .ref h0_world, .ref h0_draws, .ref h0_split, .ref h0_grouped, .ref h0_images, .ref h0_slots])), (h0_tape, .inr (7, [.ref h0_tape_text, .int h0_tape_length, .int h0_tape_fault, .int h0_tape_place, .int h0_tape_next, .int h0_tape_kind, .int h0_tape_start, .int h0_tape_value])), (h0_tape_text, .inl (cB, 600, .inl h0_tape_text_f)), (h0_draft, .inr (3, [.int h0_draft_lines, .int h0_draft_laws, .int h0_draft_sorts, .int h0_draft_shares, .int h0_draft_parts, .int h0_draft_noise, .int h0_draft_noiseTold, .ref h0_draft_enter, .ref h0_draft_leave, .ref h0_draft_share, .ref h0_draft_gift, .ref h0_draft_wish, .ref h0_draft_spread, .ref h0_draft_leakBy, .ref h0_draft_joint, .ref h0_draft_part])), (h0_draft_enter, .inl (cI, 6, .inl h0_draft_enter_f)), (h0_draft_leave, .inl (cI, 6, .inl h0_draft_leave_f)), (h0_draft_share, .inl (cI, 8, .inl h0_draft_share_f)), (h0_draft_gift, .inl (cI, 8, .inl h0_draft_gift_f)), (h0_draft_wish, .inl (cI, 8, .inl h0_draft_wish_f)), (h0_draft_spread, .inl (cI, 8, .inl h0_draft_spread_f)), (h0_draft_leakBy, .inl (cI, 13, .inl h0_draft_leakBy_f)), (h0_draft_joint, .inl (cI, 120, .inl h0_draft_joint_f)), (h0_draft_part, .inl (cI, 120, .inl h0_draft_part_f))] sz) := by
  sorry
set_option maxHeartbeats 8000000 in
set_option maxRecDepth 100000 in
theorem q_X8_land (l : Launch) (dC : Nat → ClassId) (dI : Nat → Nat → Nat) (cB cI cJ cZ cP cQ : ClassId) (adK adV : Nat → Nat) (q0 : Option Nat) (h0 sz : Nat) (w : va_W) (hI : IX cB cI cJ cZ cP cQ h0 w) : Met l yX8_land wsX8_land ({ frames := 10, cells := 0, slots := 0, locals := 270 } : Room) (sPc [.ref h0] (dC, dI) (zT cB cI cJ cZ cP cQ) w sz zNW zAO adK adV q0) (va_Qi (fun (r : Int32) (x : va_W) => IX cB cI cJ cZ cP cQ h0 x ∧ True) (zB (dC, dI) (zT cB cI cJ cZ cP cQ) (fun x : va_W => x) w sz) (va_A w sz)) 0 0 (va_A w sz) := by
  obtain ⟨ad, vi, fi, vl, fl, fq, i0, i1, i2, hF, j0, j1, j2, hw⟩ := hI
  refine f_mi hw (f_pubs (k_X8_land l dC dI cB cI cJ cZ cP cQ adK adV q0 h0 (ad 0) (ad 2) (ad 12) (ad 22) (ad 29) (ad 36) (ad 37) (ad 38) (ad 42) (ad 43) (ad 1) (ad 13) (ad 14) (ad 15) (ad 16) (ad 17) (ad 18) (ad 19) (ad 20) (ad 21) sz (vi 0) (vi 1) (vi 2) (vi 3) (vi 4) (vi 5) (vi 6) (fi 0) (vi 14) (vi 15) (vi 16) (vi 17) (vi 18) (vi 19) (vi 20) (fi 10) (fi 11) (fi 12) (fi 13) (fi 14) (fi 15) (fi 16) (fi 17) (fi 18) hF.1 hF.2.1 hF.2.2.1 hF.2.2.2.1 hF.2.2.2.2.1 hF.2.2.2.2.2.1 hF.2.2.2.2.2.2.2.2.2.2.2.2.2.2.2.2.1 hF.2.2.2.2.2.2.2.2.2.2.2.2.2.2.2.2.2.1 hF.2.2.2.2.2.2.2.2.2.2.2.2.2.2.2.2.2.2.1 hF.2.2.2.2.2.2.2.2.2.2.2.2.2.2.2.2.2.2.2.1 hF.2.2.2.2.2.2.2.2.2.2.2.2.2.2.2.2.2.2.2.2.1 hF.2.2.2.2.2.2.2.2.2.2.2.2.2.2.2.2.2.2.2.2.2.1 hF.2.2.2.2.2.2.2.2.2.2.2.2.2.2.2.2.2.2.2.2.2.2.1 hF.2.2.2.2.2.2.2.2.2.2.2.2.2.2.2.2.2.2.2.2.2.2.2.1 hF.2.2.2.2.2.2.2.2.2.2.2.2.2.2.2.2.2.2.2.2.2.2.2.2.1 hF.2.2.2.2.2.2.2.2.2.2.2.2.2.2.2.2.2.2.2.2.2.2.2.2.2.1) [0, 1, 2, 13, 14, 15, 16, 17, 18, 19, 20, 21, 22] [3, 4, 5, 6, 7, 8, 9, 10, 11, 12, 23, 24, 25, 26, 27, 28, 29, 30, 31, 32, 33, 34, 35, 36, 37, 38, 39, 40, 41, 42, 43, 44, 45, 46, 47, 48, 49, 50, 51, 52] [40, 41, 42, 0, 1, 2, 3, 4, 5, 6, 7, 8, 9, 43, 44, 45, 46, 47, 48, 49, 50, 51, 52, 10, 11, 12, 13, 14, 15, 16, 17, 18, 19, 20, 21, 22, 23, 24, 25, 26, 27, 28, 29, 30, 31, 32, 33, 34, 35, 36, 37, 38, 39] (by decide) rfl rfl (by decide) (by decide) (by decide) (by decide +kernel) (fun _ h => absurd h List.not_mem_nil) (fun r u hp => ?_))
  obtain ⟨v0, v1, v2, v3, v4, v5, v6, v7, v8, v9, v10, v11, v12, v13, v14, v15, v16, v17, v18, v19, v20, v21, v22, v23, v24⟩ := u
  have hp : 0 ≤ v2.toInt ∧ v2.toInt ≤ 600 ∧ 0 ≤ v5.toInt ∧ v5.toInt ≤ 600 ∧ 0 ≤ v7.toInt ∧ v7.toInt ≤ 600 ∧ 0 ≤ v10.toInt ∧ v10.toInt ≤ 6 ∧ 0 ≤ v11.toInt ∧ v11.toInt ≤ 8 ∧ 0 ≤ v13.toInt ∧ v13.toInt ≤ 120 ∧ 0 ≤ v15.toInt ∧ v15.toInt ≤ 1 ∧ (zR 0 240 v20) ∧ (zR 0 60 v21) ∧ ((v0 = (ad 2) ∧ v1 = (ad 12)) ∨ (v0 = (ad 12) ∧ v1 = (ad 2))) := hp
  obtain ⟨g0, g1, g2, g3, g4, g5, g6, g7, g8, g9, g10, g11, g12, g13, g14, g15, g16⟩ := hp
  rcases g16 with ⟨b1, b2⟩ | ⟨b1, b2⟩
  · exact ⟨[(h0, .inr (8, [.ref (ad 0), .ref (ad 2), .ref (ad 12), .ref (ad 22), .ref (ad 29), .ref (ad 36), .ref (ad 37), .ref (ad 38), .ref (ad 42), .ref (ad 43)])), ((ad 0), .inr (7, [.ref (ad 1), .int v2, .int v3, .int v4, .int v5, .int v6, .int v7, .int v8])), ((ad 1), .inl (cB, 600, .inl (fi 0))), ((ad 2), .inr (3, [.int (vi 7), .int (vi 8), .int (vi 9), .int (vi 10), .int (vi 11), .int (vi 12), .int (vi 13), .ref (ad 3), .ref (ad 4), .ref (ad 5), .ref (ad 6), .ref (ad 7), .ref (ad 8), .ref (ad 9), .ref (ad 10), .ref (ad 11)])), ((ad 3), .inl (cI, 6, .inl (fi 1))), ((ad 4), .inl (cI, 6, .inl (fi 2))), ((ad 5), .inl (cI, 8, .inl (fi 3))), ((ad 6), .inl (cI, 8, .inl (fi 4))), ((ad 7), .inl (cI, 8, .inl (fi 5))), ((ad 8), .inl (cI, 8, .inl (fi 6))), ((ad 9), .inl (cI, 13, .inl (fi 7))), ((ad 10), .inl (cI, 120, .inl (fi 8))), ((ad 11), .inl (cI, 120, .inl (fi 9))), ((ad 12), .inr (3, [.int v9, .int v10, .int v11, .int v12, .int v13, .int v14, .int v15, .ref (ad 13), .ref (ad 14), .ref (ad 15), .ref (ad 16), .ref (ad 17), .ref (ad 18), .ref (ad 19), .ref (ad 20), .ref (ad 21)])), ((ad 13), .inl (cI, 6, .inl v16)), ((ad 14), .inl (cI, 6, .inl v17)), ((ad 15), .inl (cI, 8, .inl v18)), ((ad 16), .inl (cI, 8, .inl v19)), ((ad 17), .inl (cI, 8, .inl v20)), ((ad 18), .inl (cI, 8, .inl v21)), ((ad 19), .inl (cI, 13, .inl v22)), ((ad 20), .inl (cI, 120, .inl v23)), ((ad 21), .inl (cI, 120, .inl v24)), ((ad 22), .inr (5, [.int (vi 21), .ref (ad 23), .ref (ad 24), .ref (ad 25), .ref (ad 26), .ref (ad 27), .ref (ad 28)])), ((ad 23), .inl (cI, 200, .inl (fi 19))), ((ad 24), .inl (cI, 200, .inl (fi 20))), ((ad 25), .inl (cI, 200, .inl (fi 21))), ((ad 26), .inl (cI, 200, .inl (fi 22))), ((ad 27), .inl (cI, 200, .inl (fi 23))), ((ad 28), .inl (cI, 200, .inl (fi 24))), ((ad 29), .inr (5, [.int (vi 22), .ref (ad 30), .ref (ad 31), .ref (ad 32), .ref (ad 33), .ref (ad 34), .ref (ad 35)])), ((ad 30), .inl (cI, 200, .inl (fi 25))), ((ad 31), .inl (cI, 200, .inl (fi 26))), ((ad 32), .inl (cI, 200, .inl (fi 27))), ((ad 33), .inl (cI, 200, .inl (fi 28))), ((ad 34), .inl (cI, 200, .inl (fi 29))), ((ad 35), .inl (cI, 200, .inl (fi 30))), ((ad 36), .inr (0, [.long (vl 0)])), ((ad 37), .inr (6, [.long (vl 1), .long (vl 2), .long (vl 3), .long (vl 4), .long (vl 5), .long (vl 6), .long (vl 7), .long (vl 8), .long (vl 9), .long (vl 10), .long (vl 11)])), ((ad 38), .inr (1, [.ref (ad 39), .ref (ad 40), .ref (ad 41)])), ((ad 39), .inl (cJ, 72, .inr (.inl (fl 0)))), ((ad 40), .inl (cJ, 72, .inr (.inl (fl 1)))), ((ad 41), .inl (cJ, 72, .inr (.inl (fl 2)))), ((ad 42), .inl (cP, 3, .inr (.inr (.inr (.inr (fq 0)))))), ((ad 43), .inl (cQ, 4, .inr (.inr (.inr (.inr (zQ4 (ad 44) (ad 46) (ad 48) (ad 50))))))), ((ad 44), .inr (4, [.int (vi 23), .int (vi 24), .ref (ad 45)])), ((ad 45), .inl (cJ, 60, .inr (.inl (fl 3)))), ((ad 46), .inr (4, [.int (vi 25), .int (vi 26), .ref (ad 47)])), ((ad 47), .inl (cJ, 60, .inr (.inl (fl 4)))), ((ad 48), .inr (4, [.int (vi 27), .int (vi 28), .ref (ad 49)])), ((ad 49), .inl (cJ, 60, .inr (.inl (fl 5)))), ((ad 50), .inr (4, [.int (vi 29), .int (vi 30), .ref (ad 51)])), ((ad 51), .inl (cJ, 60, .inr (.inl (fl 6))))], (by first | (rw [b1, b2]; done) | (rw [b1, b2]; rfl)), IX_mk (ad 0) (ad 1) (ad 2) (ad 3) (ad 4) (ad 5) (ad 6) (ad 7) (ad 8) (ad 9) (ad 10) (ad 11) (ad 12) (ad 13) (ad 14) (ad 15) (ad 16) (ad 17) (ad 18) (ad 19) (ad 20) (ad 21) (ad 22) (ad 23) (ad 24) (ad 25) (ad 26) (ad 27) (ad 28) (ad 29) (ad 30) (ad 31) (ad 32) (ad 33) (ad 34) (ad 35) (ad 36) (ad 37) (ad 38) (ad 39) (ad 40) (ad 41) (ad 42) (ad 43) (ad 44) (ad 45) (ad 46) (ad 47) (ad 48) (ad 49) (ad 50) (ad 51) v2 v3 v4 v5 v6 v7 v8 (fi 0) (vi 7) (vi 8) (vi 9) (vi 10) (vi 11) (vi 12) (vi 13) (fi 1) (fi 2) (fi 3) (fi 4) (fi 5) (fi 6) (fi 7) (fi 8) (fi 9) v9 v10 v11 v12 v13 v14 v15 v16 v17 v18 v19 v20 v21 v22 v23 v24 (vi 21) (fi 19) (fi 20) (fi 21) (fi 22) (fi 23) (fi 24) (vi 22) (fi 25) (fi 26) (fi 27) (fi 28) (fi 29) (fi 30) (vl 0) (vl 1) (vl 2) (vl 3) (vl 4) (vl 5) (vl 6) (vl 7) (vl 8) (vl 9) (vl 10) (vl 11) (fl 0) (fl 1) (fl 2) (fq 0) (vi 23) (vi 24) (fl 3) (vi 25) (vi 26) (fl 4) (vi 27) (vi 28) (fl 5) (vi 29) (vi 30) (fl 6) i0 i1 i2 g0 g1 g2 g3 g4 g5 hF.2.2.2.2.2.2.1 hF.2.2.2.2.2.2.2.1 hF.2.2.2.2.2.2.2.2.1 hF.2.2.2.2.2.2.2.2.2.1 hF.2.2.2.2.2.2.2.2.2.2.1 hF.2.2.2.2.2.2.2.2.2.2.2.1 hF.2.2.2.2.2.2.2.2.2.2.2.2.1 hF.2.2.2.2.2.2.2.2.2.2.2.2.2.1 hF.2.2.2.2.2.2.2.2.2.2.2.2.2.2.1 hF.2.2.2.2.2.2.2.2.2.2.2.2.2.2.2.1 g6 g7 g8 g9 g10 g11 g12 g13 g14 g15 hF.2.2.2.2.2.2.2.2.2.2.2.2.2.2.2.2.2.2.2.2.2.2.2.2.2.2.1 hF.2.2.2.2.2.2.2.2.2.2.2.2.2.2.2.2.2.2.2.2.2.2.2.2.2.2.2.1 hF.2.2.2.2.2.2.2.2.2.2.2.2.2.2.2.2.2.2.2.2.2.2.2.2.2.2.2.2.1 hF.2.2.2.2.2.2.2.2.2.2.2.2.2.2.2.2.2.2.2.2.2.2.2.2.2.2.2.2.2.1 hF.2.2.2.2.2.2.2.2.2.2.2.2.2.2.2.2.2.2.2.2.2.2.2.2.2.2.2.2.2.2.1 hF.2.2.2.2.2.2.2.2.2.2.2.2.2.2.2.2.2.2.2.2.2.2.2.2.2.2.2.2.2.2.2.1 hF.2.2.2.2.2.2.2.2.2.2.2.2.2.2.2.2.2.2.2.2.2.2.2.2.2.2.2.2.2.2.2.2.1 hF.2.2.2.2.2.2.2.2.2.2.2.2.2.2.2.2.2.2.2.2.2.2.2.2.2.2.2.2.2.2.2.2.2.1 hF.2.2.2.2.2.2.2.2.2.2.2.2.2.2.2.2.2.2.2.2.2.2.2.2.2.2.2.2.2.2.2.2.2.2.1 hF.2.2.2.2.2.2.2.2.2.2.2.2.2.2.2.2.2.2.2.2.2.2.2.2.2.2.2.2.2.2.2.2.2.2.2.1 hF.2.2.2.2.2.2.2.2.2.2.2.2.2.2.2.2.2.2.2.2.2.2.2.2.2.2.2.2.2.2.2.2.2.2.2.2.1 hF.2.2.2.2.2.2.2.2.2.2.2.2.2.2.2.2.2.2.2.2.2.2.2.2.2.2.2.2.2.2.2.2.2.2.2.2.2.1 hF.2.2.2.2.2.2.2.2.2.2.2.2.2.2.2.2.2.2.2.2.2.2.2.2.2.2.2.2.2.2.2.2.2.2.2.2.2.2.1 hF.2.2.2.2.2.2.2.2.2.2.2.2.2.2.2.2.2.2.2.2.2.2.2.2.2.2.2.2.2.2.2.2.2.2.2.2.2.2.2.1 hF.2.2.2.2.2.2.2.2.2.2.2.2.2.2.2.2.2.2.2.2.2.2.2.2.2.2.2.2.2.2.2.2.2.2.2.2.2.2.2.2.1 hF.2.2.2.2.2.2.2.2.2.2.2.2.2.2.2.2.2.2.2.2.2.2.2.2.2.2.2.2.2.2.2.2.2.2.2.2.2.2.2.2.2.1 hF.2.2.2.2.2.2.2.2.2.2.2.2.2.2.2.2.2.2.2.2.2.2.2.2.2.2.2.2.2.2.2.2.2.2.2.2.2.2.2.2.2.2.1 hF.2.2.2.2.2.2.2.2.2.2.2.2.2.2.2.2.2.2.2.2.2.2.2.2.2.2.2.2.2.2.2.2.2.2.2.2.2.2.2.2.2.2.2.1 hF.2.2.2.2.2.2.2.2.2.2.2.2.2.2.2.2.2.2.2.2.2.2.2.2.2.2.2.2.2.2.2.2.2.2.2.2.2.2.2.2.2.2.2.2.1 hF.2.2.2.2.2.2.2.2.2.2.2.2.2.2.2.2.2.2.2.2.2.2.2.2.2.2.2.2.2.2.2.2.2.2.2.2.2.2.2.2.2.2.2.2.2.1 hF.2.2.2.2.2.2.2.2.2.2.2.2.2.2.2.2.2.2.2.2.2.2.2.2.2.2.2.2.2.2.2.2.2.2.2.2.2.2.2.2.2.2.2.2.2.2.1 hF.2.2.2.2.2.2.2.2.2.2.2.2.2.2.2.2.2.2.2.2.2.2.2.2.2.2.2.2.2.2.2.2.2.2.2.2.2.2.2.2.2.2.2.2.2.2.2.1 hF.2.2.2.2.2.2.2.2.2.2.2.2.2.2.2.2.2.2.2.2.2.2.2.2.2.2.2.2.2.2.2.2.2.2.2.2.2.2.2.2.2.2.2.2.2.2.2.2.1 hF.2.2.2.2.2.2.2.2.2.2.2.2.2.2.2.2.2.2.2.2.2.2.2.2.2.2.2.2.2.2.2.2.2.2.2.2.2.2.2.2.2.2.2.2.2.2.2.2.2.1 hF.2.2.2.2.2.2.2.2.2.2.2.2.2.2.2.2.2.2.2.2.2.2.2.2.2.2.2.2.2.2.2.2.2.2.2.2.2.2.2.2.2.2.2.2.2.2.2.2.2.2 j0 j1 j2 (List.Perm.refl _), trivial⟩
  · exact ⟨[(h0, .inr (8, [.ref (ad 0), .ref (ad 12), .ref (ad 2), .ref (ad 22), .ref (ad 29), .ref (ad 36), .ref (ad 37), .ref (ad 38), .ref (ad 42), .ref (ad 43)])), ((ad 0), .inr (7, [.ref (ad 1), .int v2, .int v3, .int v4, .int v5, .int v6, .int v7, .int v8])), ((ad 1), .inl (cB, 600, .inl (fi 0))), ((ad 2), .inr (3, [.int (vi 7), .int (vi 8), .int (vi 9), .int (vi 10), .int (vi 11), .int (vi 12), .int (vi 13), .ref (ad 3), .ref (ad 4), .ref (ad 5), .ref (ad 6), .ref (ad 7), .ref (ad 8), .ref (ad 9), .ref (ad 10), .ref (ad 11)])), ((ad 3), .inl (cI, 6, .inl (fi 1))), ((ad 4), .inl (cI, 6, .inl (fi 2))), ((ad 5), .inl (cI, 8, .inl (fi 3))), ((ad 6), .inl (cI, 8, .inl (fi 4))), ((ad 7), .inl (cI, 8, .inl (fi 5))), ((ad 8), .inl (cI, 8, .inl (fi 6))), ((ad 9), .inl (cI, 13, .inl (fi 7))), ((ad 10), .inl (cI, 120, .inl (fi 8))), ((ad 11), .inl (cI, 120, .inl (fi 9))), ((ad 12), .inr (3, [.int v9, .int v10, .int v11, .int v12, .int v13, .int v14, .int v15, .ref (ad 13), .ref (ad 14), .ref (ad 15), .ref (ad 16), .ref (ad 17), .ref (ad 18), .ref (ad 19), .ref (ad 20), .ref (ad 21)])), ((ad 13), .inl (cI, 6, .inl v16)), ((ad 14), .inl (cI, 6, .inl v17)), ((ad 15), .inl (cI, 8, .inl v18)), ((ad 16), .inl (cI, 8, .inl v19)), ((ad 17), .inl (cI, 8, .inl v20)), ((ad 18), .inl (cI, 8, .inl v21)), ((ad 19), .inl (cI, 13, .inl v22)), ((ad 20), .inl (cI, 120, .inl v23)), ((ad 21), .inl (cI, 120, .inl v24)), ((ad 22), .inr (5, [.int (vi 21), .ref (ad 23), .ref (ad 24), .ref (ad 25), .ref (ad 26), .ref (ad 27), .ref (ad 28)])), ((ad 23), .inl (cI, 200, .inl (fi 19))), ((ad 24), .inl (cI, 200, .inl (fi 20))), ((ad 25), .inl (cI, 200, .inl (fi 21))), ((ad 26), .inl (cI, 200, .inl (fi 22))), ((ad 27), .inl (cI, 200, .inl (fi 23))), ((ad 28), .inl (cI, 200, .inl (fi 24))), ((ad 29), .inr (5, [.int (vi 22), .ref (ad 30), .ref (ad 31), .ref (ad 32), .ref (ad 33), .ref (ad 34), .ref (ad 35)])), ((ad 30), .inl (cI, 200, .inl (fi 25))), ((ad 31), .inl (cI, 200, .inl (fi 26))), ((ad 32), .inl (cI, 200, .inl (fi 27))), ((ad 33), .inl (cI, 200, .inl (fi 28))), ((ad 34), .inl (cI, 200, .inl (fi 29))), ((ad 35), .inl (cI, 200, .inl (fi 30))), ((ad 36), .inr (0, [.long (vl 0)])), ((ad 37), .inr (6, [.long (vl 1), .long (vl 2), .long (vl 3), .long (vl 4), .long (vl 5), .long (vl 6), .long (vl 7), .long (vl 8), .long (vl 9), .long (vl 10), .long (vl 11)])), ((ad 38), .inr (1, [.ref (ad 39), .ref (ad 40), .ref (ad 41)])), ((ad 39), .inl (cJ, 72, .inr (.inl (fl 0)))), ((ad 40), .inl (cJ, 72, .inr (.inl (fl 1)))), ((ad 41), .inl (cJ, 72, .inr (.inl (fl 2)))), ((ad 42), .inl (cP, 3, .inr (.inr (.inr (.inr (fq 0)))))), ((ad 43), .inl (cQ, 4, .inr (.inr (.inr (.inr (zQ4 (ad 44) (ad 46) (ad 48) (ad 50))))))), ((ad 44), .inr (4, [.int (vi 23), .int (vi 24), .ref (ad 45)])), ((ad 45), .inl (cJ, 60, .inr (.inl (fl 3)))), ((ad 46), .inr (4, [.int (vi 25), .int (vi 26), .ref (ad 47)])), ((ad 47), .inl (cJ, 60, .inr (.inl (fl 4)))), ((ad 48), .inr (4, [.int (vi 27), .int (vi 28), .ref (ad 49)])), ((ad 49), .inl (cJ, 60, .inr (.inl (fl 5)))), ((ad 50), .inr (4, [.int (vi 29), .int (vi 30), .ref (ad 51)])), ((ad 51), .inl (cJ, 60, .inr (.inl (fl 6))))], (by first | (rw [b1, b2]; done) | (rw [b1, b2]; rfl)), IX_mk (ad 0) (ad 1) (ad 12) (ad 13) (ad 14) (ad 15) (ad 16) (ad 17) (ad 18) (ad 19) (ad 20) (ad 21) (ad 2) (ad 3) (ad 4) (ad 5) (ad 6) (ad 7) (ad 8) (ad 9) (ad 10) (ad 11) (ad 22) (ad 23) (ad 24) (ad 25) (ad 26) (ad 27) (ad 28) (ad 29) (ad 30) (ad 31) (ad 32) (ad 33) (ad 34) (ad 35) (ad 36) (ad 37) (ad 38) (ad 39) (ad 40) (ad 41) (ad 42) (ad 43) (ad 44) (ad 45) (ad 46) (ad 47) (ad 48) (ad 49) (ad 50) (ad 51) v2 v3 v4 v5 v6 v7 v8 (fi 0) v9 v10 v11 v12 v13 v14 v15 v16 v17 v18 v19 v20 v21 v22 v23 v24 (vi 7) (vi 8) (vi 9) (vi 10) (vi 11) (vi 12) (vi 13) (fi 1) (fi 2) (fi 3) (fi 4) (fi 5) (fi 6) (fi 7) (fi 8) (fi 9) (vi 21) (fi 19) (fi 20) (fi 21) (fi 22) (fi 23) (fi 24) (vi 22) (fi 25) (fi 26) (fi 27) (fi 28) (fi 29) (fi 30) (vl 0) (vl 1) (vl 2) (vl 3) (vl 4) (vl 5) (vl 6) (vl 7) (vl 8) (vl 9) (vl 10) (vl 11) (fl 0) (fl 1) (fl 2) (fq 0) (vi 23) (vi 24) (fl 3) (vi 25) (vi 26) (fl 4) (vi 27) (vi 28) (fl 5) (vi 29) (vi 30) (fl 6) i0 i1 i2 g0 g1 g2 g3 g4 g5 g6 g7 g8 g9 g10 g11 g12 g13 g14 g15 hF.2.2.2.2.2.2.1 hF.2.2.2.2.2.2.2.1 hF.2.2.2.2.2.2.2.2.1 hF.2.2.2.2.2.2.2.2.2.1 hF.2.2.2.2.2.2.2.2.2.2.1 hF.2.2.2.2.2.2.2.2.2.2.2.1 hF.2.2.2.2.2.2.2.2.2.2.2.2.1 hF.2.2.2.2.2.2.2.2.2.2.2.2.2.1 hF.2.2.2.2.2.2.2.2.2.2.2.2.2.2.1 hF.2.2.2.2.2.2.2.2.2.2.2.2.2.2.2.1 hF.2.2.2.2.2.2.2.2.2.2.2.2.2.2.2.2.2.2.2.2.2.2.2.2.2.2.1 hF.2.2.2.2.2.2.2.2.2.2.2.2.2.2.2.2.2.2.2.2.2.2.2.2.2.2.2.1 hF.2.2.2.2.2.2.2.2.2.2.2.2.2.2.2.2.2.2.2.2.2.2.2.2.2.2.2.2.1 hF.2.2.2.2.2.2.2.2.2.2.2.2.2.2.2.2.2.2.2.2.2.2.2.2.2.2.2.2.2.1 hF.2.2.2.2.2.2.2.2.2.2.2.2.2.2.2.2.2.2.2.2.2.2.2.2.2.2.2.2.2.2.1 hF.2.2.2.2.2.2.2.2.2.2.2.2.2.2.2.2.2.2.2.2.2.2.2.2.2.2.2.2.2.2.2.1 hF.2.2.2.2.2.2.2.2.2.2.2.2.2.2.2.2.2.2.2.2.2.2.2.2.2.2.2.2.2.2.2.2.1 hF.2.2.2.2.2.2.2.2.2.2.2.2.2.2.2.2.2.2.2.2.2.2.2.2.2.2.2.2.2.2.2.2.2.1 hF.2.2.2.2.2.2.2.2.2.2.2.2.2.2.2.2.2.2.2.2.2.2.2.2.2.2.2.2.2.2.2.2.2.2.1 hF.2.2.2.2.2.2.2.2.2.2.2.2.2.2.2.2.2.2.2.2.2.2.2.2.2.2.2.2.2.2.2.2.2.2.2.1 hF.2.2.2.2.2.2.2.2.2.2.2.2.2.2.2.2.2.2.2.2.2.2.2.2.2.2.2.2.2.2.2.2.2.2.2.2.1 hF.2.2.2.2.2.2.2.2.2.2.2.2.2.2.2.2.2.2.2.2.2.2.2.2.2.2.2.2.2.2.2.2.2.2.2.2.2.1 hF.2.2.2.2.2.2.2.2.2.2.2.2.2.2.2.2.2.2.2.2.2.2.2.2.2.2.2.2.2.2.2.2.2.2.2.2.2.2.1 hF.2.2.2.2.2.2.2.2.2.2.2.2.2.2.2.2.2.2.2.2.2.2.2.2.2.2.2.2.2.2.2.2.2.2.2.2.2.2.2.1 hF.2.2.2.2.2.2.2.2.2.2.2.2.2.2.2.2.2.2.2.2.2.2.2.2.2.2.2.2.2.2.2.2.2.2.2.2.2.2.2.2.1 hF.2.2.2.2.2.2.2.2.2.2.2.2.2.2.2.2.2.2.2.2.2.2.2.2.2.2.2.2.2.2.2.2.2.2.2.2.2.2.2.2.2.1 hF.2.2.2.2.2.2.2.2.2.2.2.2.2.2.2.2.2.2.2.2.2.2.2.2.2.2.2.2.2.2.2.2.2.2.2.2.2.2.2.2.2.2.1 hF.2.2.2.2.2.2.2.2.2.2.2.2.2.2.2.2.2.2.2.2.2.2.2.2.2.2.2.2.2.2.2.2.2.2.2.2.2.2.2.2.2.2.2.1 hF.2.2.2.2.2.2.2.2.2.2.2.2.2.2.2.2.2.2.2.2.2.2.2.2.2.2.2.2.2.2.2.2.2.2.2.2.2.2.2.2.2.2.2.2.1 hF.2.2.2.2.2.2.2.2.2.2.2.2.2.2.2.2.2.2.2.2.2.2.2.2.2.2.2.2.2.2.2.2.2.2.2.2.2.2.2.2.2.2.2.2.2.1 hF.2.2.2.2.2.2.2.2.2.2.2.2.2.2.2.2.2.2.2.2.2.2.2.2.2.2.2.2.2.2.2.2.2.2.2.2.2.2.2.2.2.2.2.2.2.2.1 hF.2.2.2.2.2.2.2.2.2.2.2.2.2.2.2.2.2.2.2.2.2.2.2.2.2.2.2.2.2.2.2.2.2.2.2.2.2.2.2.2.2.2.2.2.2.2.2.1 hF.2.2.2.2.2.2.2.2.2.2.2.2.2.2.2.2.2.2.2.2.2.2.2.2.2.2.2.2.2.2.2.2.2.2.2.2.2.2.2.2.2.2.2.2.2.2.2.2.1 hF.2.2.2.2.2.2.2.2.2.2.2.2.2.2.2.2.2.2.2.2.2.2.2.2.2.2.2.2.2.2.2.2.2.2.2.2.2.2.2.2.2.2.2.2.2.2.2.2.2.1 hF.2.2.2.2.2.2.2.2.2.2.2.2.2.2.2.2.2.2.2.2.2.2.2.2.2.2.2.2.2.2.2.2.2.2.2.2.2.2.2.2.2.2.2.2.2.2.2.2.2.2 j0 j1 j2 (List.Perm.append_right _ (show List.Perm (([(h0, .inr (8, [.ref (ad 0), .ref (ad 12), .ref (ad 2), .ref (ad 22), .ref (ad 29), .ref (ad 36), .ref (ad 37), .ref (ad 38), .ref (ad 42), .ref (ad 43)])), ((ad 0), .inr (7, [.ref (ad 1), .int v2, .int v3, .int v4, .int v5, .int v6, .int v7, .int v8])), ((ad 1), .inl (cB, 600, .inl (fi 0)))] : va_W) ++ (([((ad 2), .inr (3, [.int (vi 7), .int (vi 8), .int (vi 9), .int (vi 10), .int (vi 11), .int (vi 12), .int (vi 13), .ref (ad 3), .ref (ad 4), .ref (ad 5), .ref (ad 6), .ref (ad 7), .ref (ad 8), .ref (ad 9), .ref (ad 10), .ref (ad 11)])), ((ad 3), .inl (cI, 6, .inl (fi 1))), ((ad 4), .inl (cI, 6, .inl (fi 2))), ((ad 5), .inl (cI, 8, .inl (fi 3))), ((ad 6), .inl (cI, 8, .inl (fi 4))), ((ad 7), .inl (cI, 8, .inl (fi 5))), ((ad 8), .inl (cI, 8, .inl (fi 6))), ((ad 9), .inl (cI, 13, .inl (fi 7))), ((ad 10), .inl (cI, 120, .inl (fi 8))), ((ad 11), .inl (cI, 120, .inl (fi 9)))] : va_W) ++ (([((ad 12), .inr (3, [.int v9, .int v10, .int v11, .int v12, .int v13, .int v14, .int v15, .ref (ad 13), .ref (ad 14), .ref (ad 15), .ref (ad 16), .ref (ad 17), .ref (ad 18), .ref (ad 19), .ref (ad 20), .ref (ad 21)])), ((ad 13), .inl (cI, 6, .inl v16)), ((ad 14), .inl (cI, 6, .inl v17)), ((ad 15), .inl (cI, 8, .inl v18)), ((ad 16), .inl (cI, 8, .inl v19)), ((ad 17), .inl (cI, 8, .inl v20)), ((ad 18), .inl (cI, 8, .inl v21)), ((ad 19), .inl (cI, 13, .inl v22)), ((ad 20), .inl (cI, 120, .inl v23)), ((ad 21), .inl (cI, 120, .inl v24))] : va_W) ++ ([((ad 22), .inr (5, [.int (vi 21), .ref (ad 23), .ref (ad 24), .ref (ad 25), .ref (ad 26), .ref (ad 27), .ref (ad 28)])), ((ad 23), .inl (cI, 200, .inl (fi 19))), ((ad 24), .inl (cI, 200, .inl (fi 20))), ((ad 25), .inl (cI, 200, .inl (fi 21))), ((ad 26), .inl (cI, 200, .inl (fi 22))), ((ad 27), .inl (cI, 200, .inl (fi 23))), ((ad 28), .inl (cI, 200, .inl (fi 24))), ((ad 29), .inr (5, [.int (vi 22), .ref (ad 30), .ref (ad 31), .ref (ad 32), .ref (ad 33), .ref (ad 34), .ref (ad 35)])), ((ad 30), .inl (cI, 200, .inl (fi 25))), ((ad 31), .inl (cI, 200, .inl (fi 26))), ((ad 32), .inl (cI, 200, .inl (fi 27))), ((ad 33), .inl (cI, 200, .inl (fi 28))), ((ad 34), .inl (cI, 200, .inl (fi 29))), ((ad 35), .inl (cI, 200, .inl (fi 30))), ((ad 36), .inr (0, [.long (vl 0)])), ((ad 37), .inr (6, [.long (vl 1), .long (vl 2), .long (vl 3), .long (vl 4), .long (vl 5), .long (vl 6), .long (vl 7), .long (vl 8), .long (vl 9), .long (vl 10), .long (vl 11)])), ((ad 38), .inr (1, [.ref (ad 39), .ref (ad 40), .ref (ad 41)])), ((ad 39), .inl (cJ, 72, .inr (.inl (fl 0)))), ((ad 40), .inl (cJ, 72, .inr (.inl (fl 1)))), ((ad 41), .inl (cJ, 72, .inr (.inl (fl 2)))), ((ad 42), .inl (cP, 3, .inr (.inr (.inr (.inr (fq 0)))))), ((ad 43), .inl (cQ, 4, .inr (.inr (.inr (.inr (zQ4 (ad 44) (ad 46) (ad 48) (ad 50))))))), ((ad 44), .inr (4, [.int (vi 23), .int (vi 24), .ref (ad 45)])), ((ad 45), .inl (cJ, 60, .inr (.inl (fl 3)))), ((ad 46), .inr (4, [.int (vi 25), .int (vi 26), .ref (ad 47)])), ((ad 47), .inl (cJ, 60, .inr (.inl (fl 4)))), ((ad 48), .inr (4, [.int (vi 27), .int (vi 28), .ref (ad 49)])), ((ad 49), .inl (cJ, 60, .inr (.inl (fl 5)))), ((ad 50), .inr (4, [.int (vi 29), .int (vi 30), .ref (ad 51)])), ((ad 51), .inl (cJ, 60, .inr (.inl (fl 6))))] : va_W)))) (([(h0, .inr (8, [.ref (ad 0), .ref (ad 12), .ref (ad 2), .ref (ad 22), .ref (ad 29), .ref (ad 36), .ref (ad 37), .ref (ad 38), .ref (ad 42), .ref (ad 43)])), ((ad 0), .inr (7, [.ref (ad 1), .int v2, .int v3, .int v4, .int v5, .int v6, .int v7, .int v8])), ((ad 1), .inl (cB, 600, .inl (fi 0)))] : va_W) ++ (([((ad 12), .inr (3, [.int v9, .int v10, .int v11, .int v12, .int v13, .int v14, .int v15, .ref (ad 13), .ref (ad 14), .ref (ad 15), .ref (ad 16), .ref (ad 17), .ref (ad 18), .ref (ad 19), .ref (ad 20), .ref (ad 21)])), ((ad 13), .inl (cI, 6, .inl v16)), ((ad 14), .inl (cI, 6, .inl v17)), ((ad 15), .inl (cI, 8, .inl v18)), ((ad 16), .inl (cI, 8, .inl v19)), ((ad 17), .inl (cI, 8, .inl v20)), ((ad 18), .inl (cI, 8, .inl v21)), ((ad 19), .inl (cI, 13, .inl v22)), ((ad 20), .inl (cI, 120, .inl v23)), ((ad 21), .inl (cI, 120, .inl v24))] : va_W) ++ (([((ad 2), .inr (3, [.int (vi 7), .int (vi 8), .int (vi 9), .int (vi 10), .int (vi 11), .int (vi 12), .int (vi 13), .ref (ad 3), .ref (ad 4), .ref (ad 5), .ref (ad 6), .ref (ad 7), .ref (ad 8), .ref (ad 9), .ref (ad 10), .ref (ad 11)])), ((ad 3), .inl (cI, 6, .inl (fi 1))), ((ad 4), .inl (cI, 6, .inl (fi 2))), ((ad 5), .inl (cI, 8, .inl (fi 3))), ((ad 6), .inl (cI, 8, .inl (fi 4))), ((ad 7), .inl (cI, 8, .inl (fi 5))), ((ad 8), .inl (cI, 8, .inl (fi 6))), ((ad 9), .inl (cI, 13, .inl (fi 7))), ((ad 10), .inl (cI, 120, .inl (fi 8))), ((ad 11), .inl (cI, 120, .inl (fi 9)))] : va_W) ++ ([((ad 22), .inr (5, [.int (vi 21), .ref (ad 23), .ref (ad 24), .ref (ad 25), .ref (ad 26), .ref (ad 27), .ref (ad 28)])), ((ad 23), .inl (cI, 200, .inl (fi 19))), ((ad 24), .inl (cI, 200, .inl (fi 20))), ((ad 25), .inl (cI, 200, .inl (fi 21))), ((ad 26), .inl (cI, 200, .inl (fi 22))), ((ad 27), .inl (cI, 200, .inl (fi 23))), ((ad 28), .inl (cI, 200, .inl (fi 24))), ((ad 29), .inr (5, [.int (vi 22), .ref (ad 30), .ref (ad 31), .ref (ad 32), .ref (ad 33), .ref (ad 34), .ref (ad 35)])), ((ad 30), .inl (cI, 200, .inl (fi 25))), ((ad 31), .inl (cI, 200, .inl (fi 26))), ((ad 32), .inl (cI, 200, .inl (fi 27))), ((ad 33), .inl (cI, 200, .inl (fi 28))), ((ad 34), .inl (cI, 200, .inl (fi 29))), ((ad 35), .inl (cI, 200, .inl (fi 30))), ((ad 36), .inr (0, [.long (vl 0)])), ((ad 37), .inr (6, [.long (vl 1), .long (vl 2), .long (vl 3), .long (vl 4), .long (vl 5), .long (vl 6), .long (vl 7), .long (vl 8), .long (vl 9), .long (vl 10), .long (vl 11)])), ((ad 38), .inr (1, [.ref (ad 39), .ref (ad 40), .ref (ad 41)])), ((ad 39), .inl (cJ, 72, .inr (.inl (fl 0)))), ((ad 40), .inl (cJ, 72, .inr (.inl (fl 1)))), ((ad 41), .inl (cJ, 72, .inr (.inl (fl 2)))), ((ad 42), .inl (cP, 3, .inr (.inr (.inr (.inr (fq 0)))))), ((ad 43), .inl (cQ, 4, .inr (.inr (.inr (.inr (zQ4 (ad 44) (ad 46) (ad 48) (ad 50))))))), ((ad 44), .inr (4, [.int (vi 23), .int (vi 24), .ref (ad 45)])), ((ad 45), .inl (cJ, 60, .inr (.inl (fl 3)))), ((ad 46), .inr (4, [.int (vi 25), .int (vi 26), .ref (ad 47)])), ((ad 47), .inl (cJ, 60, .inr (.inl (fl 4)))), ((ad 48), .inr (4, [.int (vi 27), .int (vi 28), .ref (ad 49)])), ((ad 49), .inl (cJ, 60, .inr (.inl (fl 5)))), ((ad 50), .inr (4, [.int (vi 29), .int (vi 30), .ref (ad 51)])), ((ad 51), .inl (cJ, 60, .inr (.inl (fl 6))))] : va_W)))) from (List.perm_append_comm_assoc _ _ _).append_left _)), trivial⟩
theorem q_X8_feed (l : Launch) (dC : Nat → ClassId) (dI : Nat → Nat → Nat) (cB cI cJ cZ cP cQ : ClassId) (adK adV : Nat → Nat) (q0 : Option Nat) (h0 sz : Nat) (w : va_W) (p1 : Int32) (p2 : Int32) (p3 : Int32) (p4 : Int32) (p5 : Int32) (hI : IX cB cI cJ cZ cP cQ h0 w) : Met l yX8_feed wsX8_feed ({ frames := 1, cells := 0, slots := 0, locals := 22 } : Room) (sPc [.ref h0, .int p1, .int p2, .int p3, .int p4, .int p5] (dC, dI) (zT cB cI cJ cZ cP cQ) w sz zNW zAO adK adV q0) (va_Qi (fun (r : Int32) (x : va_W) => IX cB cI cJ cZ cP cQ h0 x ∧ True) (zB (dC, dI) (zT cB cI cJ cZ cP cQ) (fun x : va_W => x) w sz) (va_A w sz)) 0 0 (va_A w sz) := by
  sorry
theorem q_X9_feed (l : Launch) (dC : Nat → ClassId) (dI : Nat → Nat → Nat) (cB cI cJ cZ cP cQ : ClassId) (adK adV : Nat → Nat) (q0 : Option Nat) (h0 sz : Nat) (w : va_W) (p1 : Int32) (p2 : Int32) (p3 : Int32) (p4 : Int32) (p5 : Int32) (hI : IM cB cI cJ cZ cP cQ h0 w) : Met l yX9_feed wsX9_feed ({ frames := 1, cells := 0, slots := 0, locals := 22 } : Room) (sPc [.ref h0, .int p1, .int p2, .int p3, .int p4, .int p5] (dC, dI) (zT cB cI cJ cZ cP cQ) w sz zNW zAO adK adV q0) (va_Qi (fun (r : Int32) (x : va_W) => IM cB cI cJ cZ cP cQ h0 x ∧ True) (zB (dC, dI) (zT cB cI cJ cZ cP cQ) (fun x : va_W => x) w sz) (va_A w sz)) 0 0 (va_A w sz) := by
  sorry
theorem q_X8_end (l : Launch) (dC : Nat → ClassId) (dI : Nat → Nat → Nat) (cB cI cJ cZ cP cQ : ClassId) (adK adV : Nat → Nat) (q0 : Option Nat) (h0 sz : Nat) (w : va_W) (p1 : Int32) (hI : IX cB cI cJ cZ cP cQ h0 w) : Met l yX8_end wsX8_end ({ frames := 0, cells := 0, slots := 0, locals := 0 } : Room) (sPc [.ref h0, .int p1] (dC, dI) (zT cB cI cJ cZ cP cQ) w sz zNW zAO adK adV q0) (va_Qi (fun (r : Int32) (x : va_W) => IX cB cI cJ cZ cP cQ h0 x ∧ True) (zB (dC, dI) (zT cB cI cJ cZ cP cQ) (fun x : va_W => x) w sz) (va_A w sz)) 0 0 (va_A w sz) := by
  sorry
theorem q_X9_end (l : Launch) (dC : Nat → ClassId) (dI : Nat → Nat → Nat) (cB cI cJ cZ cP cQ : ClassId) (adK adV : Nat → Nat) (q0 : Option Nat) (h0 sz : Nat) (w : va_W) (p1 : Int32) (hI : IM cB cI cJ cZ cP cQ h0 w) : Met l yX9_end wsX9_end ({ frames := 1, cells := 0, slots := 0, locals := 25 } : Room) (sPc [.ref h0, .int p1] (dC, dI) (zT cB cI cJ cZ cP cQ) w sz zNW zAO adK adV q0) (va_Qi (fun (r : Int32) (x : va_W) => IM cB cI cJ cZ cP cQ h0 x ∧ True) (zB (dC, dI) (zT cB cI cJ cZ cP cQ) (fun x : va_W => x) w sz) (va_A w sz)) 0 0 (va_A w sz) := by
  sorry
theorem q_X9_land (l : Launch) (dC : Nat → ClassId) (dI : Nat → Nat → Nat) (cB cI cJ cZ cP cQ : ClassId) (adK adV : Nat → Nat) (q0 : Option Nat) (h0 sz : Nat) (w : va_W) (hI : IM cB cI cJ cZ cP cQ h0 w) : Met l yX9_land wsX9_land ({ frames := 7, cells := 0, slots := 0, locals := 154 } : Room) (sPc [.ref h0] (dC, dI) (zT cB cI cJ cZ cP cQ) w sz zNW zAO adK adV q0) (va_Qi (fun (r : Int32) (x : va_W) => IM cB cI cJ cZ cP cQ h0 x ∧ True) (zB (dC, dI) (zT cB cI cJ cZ cP cQ) (fun x : va_W => x) w sz) (va_A w sz)) 0 0 (va_A w sz) := by
  sorry
theorem q_X8_fault (l : Launch) (dC : Nat → ClassId) (dI : Nat → Nat → Nat) (cB cI cJ cZ cP cQ : ClassId) (adK adV : Nat → Nat) (q0 : Option Nat) (h0 sz : Nat) (w : va_W) (p1 : Int32) (hI : IX cB cI cJ cZ cP cQ h0 w) : Met l yX8_fault wsX8_fault ({ frames := 0, cells := 0, slots := 0, locals := 0 } : Room) (sPc [.ref h0, .int p1] (dC, dI) (zT cB cI cJ cZ cP cQ) w sz zNW zAO adK adV q0) (va_Qi (fun (r : Int32) (x : va_W) => IX cB cI cJ cZ cP cQ h0 x ∧ True) (zB (dC, dI) (zT cB cI cJ cZ cP cQ) (fun x : va_W => x) w sz) (va_A w sz)) 0 0 (va_A w sz) := by
  sorry
theorem q_X9_fault (l : Launch) (dC : Nat → ClassId) (dI : Nat → Nat → Nat) (cB cI cJ cZ cP cQ : ClassId) (adK adV : Nat → Nat) (q0 : Option Nat) (h0 sz : Nat) (w : va_W) (p1 : Int32) (hI : IM cB cI cJ cZ cP cQ h0 w) : Met l yX9_fault wsX9_fault ({ frames := 0, cells := 0, slots := 0, locals := 0 } : Room) (sPc [.ref h0, .int p1] (dC, dI) (zT cB cI cJ cZ cP cQ) w sz zNW zAO adK adV q0) (va_Qi (fun (r : Int32) (x : va_W) => IM cB cI cJ cZ cP cQ h0 x ∧ True) (zB (dC, dI) (zT cB cI cJ cZ cP cQ) (fun x : va_W => x) w sz) (va_A w sz)) 0 0 (va_A w sz) := by
  sorry
theorem q_X8_forced (l : Launch) (dC : Nat → ClassId) (dI : Nat → Nat → Nat) (cB cI cJ cZ cP cQ : ClassId) (adK adV : Nat → Nat) (q0 : Option Nat) (h0 sz : Nat) (w : va_W) (p1 : Int32) (p2 : Int32) (hI : IX cB cI cJ cZ cP cQ h0 w) : Met l yX8_forced wsX8_forced ({ frames := 2, cells := 0, slots := 0, locals := 44 } : Room) (sPc [.ref h0, .int p1, .int p2] (dC, dI) (zT cB cI cJ cZ cP cQ) w sz zNW zAO adK adV q0) (va_Qi (fun (r : Int32) (x : va_W) => IX cB cI cJ cZ cP cQ h0 x ∧ True) (zB (dC, dI) (zT cB cI cJ cZ cP cQ) (fun x : va_W => x) w sz) (va_A w sz)) 0 0 (va_A w sz) := by
  sorry
theorem q_X9_forced (l : Launch) (dC : Nat → ClassId) (dI : Nat → Nat → Nat) (cB cI cJ cZ cP cQ : ClassId) (adK adV : Nat → Nat) (q0 : Option Nat) (h0 sz : Nat) (w : va_W) (p1 : Int32) (p2 : Int32) (hI : IM cB cI cJ cZ cP cQ h0 w) : Met l yX9_forced wsX9_forced ({ frames := 2, cells := 0, slots := 0, locals := 46 } : Room) (sPc [.ref h0, .int p1, .int p2] (dC, dI) (zT cB cI cJ cZ cP cQ) w sz zNW zAO adK adV q0) (va_Qi (fun (r : Int32) (x : va_W) => IM cB cI cJ cZ cP cQ h0 x ∧ True) (zB (dC, dI) (zT cB cI cJ cZ cP cQ) (fun x : va_W => x) w sz) (va_A w sz)) 0 0 (va_A w sz) := by
  sorry
theorem q_X8_old (l : Launch) (dC : Nat → ClassId) (dI : Nat → Nat → Nat) (cB cI cJ cZ cP cQ : ClassId) (adK adV : Nat → Nat) (q0 : Option Nat) (h0 sz : Nat) (w : va_W) (p1 : Int32) (p2 : Int32) (hI : IX cB cI cJ cZ cP cQ h0 w) : Met l yX8_old wsX8_old ({ frames := 2, cells := 0, slots := 0, locals := 42 } : Room) (sPc [.ref h0, .int p1, .int p2] (dC, dI) (zT cB cI cJ cZ cP cQ) w sz zNW zAO adK adV q0) (va_Qi (fun (r : Int32) (x : va_W) => IX cB cI cJ cZ cP cQ h0 x ∧ True) (zB (dC, dI) (zT cB cI cJ cZ cP cQ) (fun x : va_W => x) w sz) (va_A w sz)) 0 0 (va_A w sz) := by
  sorry
theorem q_X9_old (l : Launch) (dC : Nat → ClassId) (dI : Nat → Nat → Nat) (cB cI cJ cZ cP cQ : ClassId) (adK adV : Nat → Nat) (q0 : Option Nat) (h0 sz : Nat) (w : va_W) (p1 : Int32) (p2 : Int32) (hI : IM cB cI cJ cZ cP cQ h0 w) : Met l yX9_old wsX9_old ({ frames := 2, cells := 0, slots := 0, locals := 46 } : Room) (sPc [.ref h0, .int p1, .int p2] (dC, dI) (zT cB cI cJ cZ cP cQ) w sz zNW zAO adK adV q0) (va_Qi (fun (r : Int32) (x : va_W) => IM cB cI cJ cZ cP cQ h0 x ∧ True) (zB (dC, dI) (zT cB cI cJ cZ cP cQ) (fun x : va_W => x) w sz) (va_A w sz)) 0 0 (va_A w sz) := by
  sorry
theorem q_X8_wage (l : Launch) (dC : Nat → ClassId) (dI : Nat → Nat → Nat) (cB cI cJ cZ cP cQ : ClassId) (adK adV : Nat → Nat) (q0 : Option Nat) (h0 sz : Nat) (w : va_W) (p1 : Int32) (p2 : Int32) (p3 : Int32) (p4 : Int32) (hI : IX cB cI cJ cZ cP cQ h0 w) : Met l yX8_wage wsX8_wage ({ frames := 4, cells := 0, slots := 0, locals := 101 } : Room) (sPc [.ref h0, .int p1, .int p2, .int p3, .int p4] (dC, dI) (zT cB cI cJ cZ cP cQ) w sz zNW zAO adK adV q0) (va_Qi (fun (r : Int32) (x : va_W) => IX cB cI cJ cZ cP cQ h0 x ∧ True) (zB (dC, dI) (zT cB cI cJ cZ cP cQ) (fun x : va_W => x) w sz) (va_A w sz)) 0 0 (va_A w sz) := by
  sorry
theorem q_X9_wage (l : Launch) (dC : Nat → ClassId) (dI : Nat → Nat → Nat) (cB cI cJ cZ cP cQ : ClassId) (adK adV : Nat → Nat) (q0 : Option Nat) (h0 sz : Nat) (w : va_W) (p1 : Int32) (p2 : Int32) (p3 : Int32) (p4 : Int32) (hI : IM cB cI cJ cZ cP cQ h0 w) : Met l yX9_wage wsX9_wage ({ frames := 3, cells := 0, slots := 0, locals := 77 } : Room) (sPc [.ref h0, .int p1, .int p2, .int p3, .int p4] (dC, dI) (zT cB cI cJ cZ cP cQ) w sz zNW zAO adK adV q0) (va_Qi (fun (r : Int32) (x : va_W) => IM cB cI cJ cZ cP cQ h0 x ∧ True) (zB (dC, dI) (zT cB cI cJ cZ cP cQ) (fun x : va_W => x) w sz) (va_A w sz)) 0 0 (va_A w sz) := by
  sorry
theorem q_X8_draw (l : Launch) (dC : Nat → ClassId) (dI : Nat → Nat → Nat) (cB cI cJ cZ cP cQ : ClassId) (adK adV : Nat → Nat) (q0 : Option Nat) (h0 sz : Nat) (w : va_W) (p1 : Int32) (p2 : Int32) (hI : IX cB cI cJ cZ cP cQ h0 w) : Met l yX8_draw wsX8_draw ({ frames := 6, cells := 0, slots := 0, locals := 154 } : Room) (sPc [.ref h0, .int p1, .int p2] (dC, dI) (zT cB cI cJ cZ cP cQ) w sz zNW zAO adK adV q0) (va_Qi (fun (r : Int32) (x : va_W) => IX cB cI cJ cZ cP cQ h0 x ∧ True) (zB (dC, dI) (zT cB cI cJ cZ cP cQ) (fun x : va_W => x) w sz) (va_A w sz)) 0 0 (va_A w sz) := by
  sorry
theorem q_X9_draw (l : Launch) (dC : Nat → ClassId) (dI : Nat → Nat → Nat) (cB cI cJ cZ cP cQ : ClassId) (adK adV : Nat → Nat) (q0 : Option Nat) (h0 sz : Nat) (w : va_W) (p1 : Int32) (p2 : Int32) (hI : IM cB cI cJ cZ cP cQ h0 w) : Met l yX9_draw wsX9_draw ({ frames := 4, cells := 0, slots := 0, locals := 107 } : Room) (sPc [.ref h0, .int p1, .int p2] (dC, dI) (zT cB cI cJ cZ cP cQ) w sz zNW zAO adK adV q0) (va_Qi (fun (r : Int32) (x : va_W) => IM cB cI cJ cZ cP cQ h0 x ∧ True) (zB (dC, dI) (zT cB cI cJ cZ cP cQ) (fun x : va_W => x) w sz) (va_A w sz)) 0 0 (va_A w sz) := by
  sorry
theorem q_X8_sheet (l : Launch) (dC : Nat → ClassId) (dI : Nat → Nat → Nat) (cB cI cJ cZ cP cQ : ClassId) (adK adV : Nat → Nat) (q0 : Option Nat) (h0 sz : Nat) (w : va_W) (p1 : Int32) (p2 : Int32) (p3 : Int32) (p4 : Int32) (hI : IX cB cI cJ cZ cP cQ h0 w) : Met l yX8_sheet wsX8_sheet ({ frames := 2, cells := 0, slots := 0, locals := 54 } : Room) (sPc [.ref h0, .int p1, .int p2, .int p3, .int p4] (dC, dI) (zT cB cI cJ cZ cP cQ) w sz zNW zAO adK adV q0) (va_Qi (fun (r : Int32) (x : va_W) => IX cB cI cJ cZ cP cQ h0 x ∧ True) (zB (dC, dI) (zT cB cI cJ cZ cP cQ) (fun x : va_W => x) w sz) (va_A w sz)) 0 0 (va_A w sz) := by
  sorry
theorem q_X9_sheet (l : Launch) (dC : Nat → ClassId) (dI : Nat → Nat → Nat) (cB cI cJ cZ cP cQ : ClassId) (adK adV : Nat → Nat) (q0 : Option Nat) (h0 sz : Nat) (w : va_W) (p1 : Int32) (p2 : Int32) (p3 : Int32) (p4 : Int32) (hI : IM cB cI cJ cZ cP cQ h0 w) : Met l yX9_sheet wsX9_sheet ({ frames := 2, cells := 0, slots := 0, locals := 54 } : Room) (sPc [.ref h0, .int p1, .int p2, .int p3, .int p4] (dC, dI) (zT cB cI cJ cZ cP cQ) w sz zNW zAO adK adV q0) (va_Qi (fun (r : Int32) (x : va_W) => IM cB cI cJ cZ cP cQ h0 x ∧ True) (zB (dC, dI) (zT cB cI cJ cZ cP cQ) (fun x : va_W => x) w sz) (va_A w sz)) 0 0 (va_A w sz) := by
  sorry
theorem q_X8_told (l : Launch) (dC : Nat → ClassId) (dI : Nat → Nat → Nat) (cB cI cJ cZ cP cQ : ClassId) (adK adV : Nat → Nat) (q0 : Option Nat) (h0 sz : Nat) (w : va_W) (p1 : Int32) (p2 : Int32) (hI : IX cB cI cJ cZ cP cQ h0 w) : Met l yX8_told wsX8_told ({ frames := 1, cells := 0, slots := 0, locals := 21 } : Room) (sPc [.ref h0, .int p1, .int p2] (dC, dI) (zT cB cI cJ cZ cP cQ) w sz zNW zAO adK adV q0) (va_Qi (fun (r : Int32) (x : va_W) => IX cB cI cJ cZ cP cQ h0 x ∧ True) (zB (dC, dI) (zT cB cI cJ cZ cP cQ) (fun x : va_W => x) w sz) (va_A w sz)) 0 0 (va_A w sz) := by
  sorry
theorem q_X9_told (l : Launch) (dC : Nat → ClassId) (dI : Nat → Nat → Nat) (cB cI cJ cZ cP cQ : ClassId) (adK adV : Nat → Nat) (q0 : Option Nat) (h0 sz : Nat) (w : va_W) (p1 : Int32) (p2 : Int32) (hI : IM cB cI cJ cZ cP cQ h0 w) : Met l yX9_told wsX9_told ({ frames := 2, cells := 0, slots := 0, locals := 46 } : Room) (sPc [.ref h0, .int p1, .int p2] (dC, dI) (zT cB cI cJ cZ cP cQ) w sz zNW zAO adK adV q0) (va_Qi (fun (r : Int32) (x : va_W) => IM cB cI cJ cZ cP cQ h0 x ∧ True) (zB (dC, dI) (zT cB cI cJ cZ cP cQ) (fun x : va_W => x) w sz) (va_A w sz)) 0 0 (va_A w sz) := by
  sorry
theorem q_X8_would (l : Launch) (dC : Nat → ClassId) (dI : Nat → Nat → Nat) (cB cI cJ cZ cP cQ : ClassId) (adK adV : Nat → Nat) (q0 : Option Nat) (h0 sz : Nat) (w : va_W) (p1 : Int32) (p2 : Int32) (hI : IX cB cI cJ cZ cP cQ h0 w) : Met l yX8_would wsX8_would ({ frames := 2, cells := 0, slots := 0, locals := 44 } : Room) (sPc [.ref h0, .int p1, .int p2] (dC, dI) (zT cB cI cJ cZ cP cQ) w sz zNW zAO adK adV q0) (va_Qi (fun (r : Int32) (x : va_W) => IX cB cI cJ cZ cP cQ h0 x ∧ True) (zB (dC, dI) (zT cB cI cJ cZ cP cQ) (fun x : va_W => x) w sz) (va_A w sz)) 0 0 (va_A w sz) := by
  sorry
theorem q_X9_would (l : Launch) (dC : Nat → ClassId) (dI : Nat → Nat → Nat) (cB cI cJ cZ cP cQ : ClassId) (adK adV : Nat → Nat) (q0 : Option Nat) (h0 sz : Nat) (w : va_W) (p1 : Int32) (p2 : Int32) (hI : IM cB cI cJ cZ cP cQ h0 w) : Met l yX9_would wsX9_would ({ frames := 3, cells := 0, slots := 0, locals := 67 } : Room) (sPc [.ref h0, .int p1, .int p2] (dC, dI) (zT cB cI cJ cZ cP cQ) w sz zNW zAO adK adV q0) (va_Qi (fun (r : Int32) (x : va_W) => IM cB cI cJ cZ cP cQ h0 x ∧ True) (zB (dC, dI) (zT cB cI cJ cZ cP cQ) (fun x : va_W => x) w sz) (va_A w sz)) 0 0 (va_A w sz) := by
  sorry
theorem q_X8_worth (l : Launch) (dC : Nat → ClassId) (dI : Nat → Nat → Nat) (cB cI cJ cZ cP cQ : ClassId) (adK adV : Nat → Nat) (q0 : Option Nat) (h0 sz : Nat) (w : va_W) (p1 : Int32) (hI : IX cB cI cJ cZ cP cQ h0 w) : Met l yX8_worth wsX8_worth ({ frames := 5, cells := 0, slots := 0, locals := 127 } : Room) (sPc [.ref h0, .int p1] (dC, dI) (zT cB cI cJ cZ cP cQ) w sz zNW zAO adK adV q0) (va_Qi (fun (r : Int32) (x : va_W) => IX cB cI cJ cZ cP cQ h0 x ∧ True) (zB (dC, dI) (zT cB cI cJ cZ cP cQ) (fun x : va_W => x) w sz) (va_A w sz)) 0 0 (va_A w sz) := by
  sorry
theorem q_X9_worth (l : Launch) (dC : Nat → ClassId) (dI : Nat → Nat → Nat) (cB cI cJ cZ cP cQ : ClassId) (adK adV : Nat → Nat) (q0 : Option Nat) (h0 sz : Nat) (w : va_W) (p1 : Int32) (hI : IM cB cI cJ cZ cP cQ h0 w) : Met l yX9_worth wsX9_worth ({ frames := 4, cells := 0, slots := 0, locals := 99 } : Room) (sPc [.ref h0, .int p1] (dC, dI) (zT cB cI cJ cZ cP cQ) w sz zNW zAO adK adV q0) (va_Qi (fun (r : Int32) (x : va_W) => IM cB cI cJ cZ cP cQ h0 x ∧ True) (zB (dC, dI) (zT cB cI cJ cZ cP cQ) (fun x : va_W => x) w sz) (va_A w sz)) 0 0 (va_A w sz) := by
  sorry
theorem q_X8_month (l : Launch) (dC : Nat → ClassId) (dI : Nat → Nat → Nat) (cB cI cJ cZ cP cQ : ClassId) (adK adV : Nat → Nat) (q0 : Option Nat) (h0 sz : Nat) (w : va_W) (p1 : Int32) (p2 : Int32) (hI : IX cB cI cJ cZ cP cQ h0 w) : Met l yX8_month wsX8_month ({ frames := 4, cells := 0, slots := 0, locals := 88 } : Room) (sPc [.ref h0, .int p1, .int p2] (dC, dI) (zT cB cI cJ cZ cP cQ) w sz zNW zAO adK adV q0) (va_Qi (fun (r : Int32) (x : va_W) => IX cB cI cJ cZ cP cQ h0 x ∧ True) (zB (dC, dI) (zT cB cI cJ cZ cP cQ) (fun x : va_W => x) w sz) (va_A w sz)) 0 0 (va_A w sz) := by
  sorry
theorem q_X9_month (l : Launch) (dC : Nat → ClassId) (dI : Nat → Nat → Nat) (cB cI cJ cZ cP cQ : ClassId) (adK adV : Nat → Nat) (q0 : Option Nat) (h0 sz : Nat) (w : va_W) (p1 : Int32) (p2 : Int32) (hI : IM cB cI cJ cZ cP cQ h0 w) : Met l yX9_month wsX9_month ({ frames := 4, cells := 0, slots := 0, locals := 88 } : Room) (sPc [.ref h0, .int p1, .int p2] (dC, dI) (zT cB cI cJ cZ cP cQ) w sz zNW zAO adK adV q0) (va_Qi (fun (r : Int32) (x : va_W) => IM cB cI cJ cZ cP cQ h0 x ∧ True) (zB (dC, dI) (zT cB cI cJ cZ cP cQ) (fun x : va_W => x) w sz) (va_A w sz)) 0 0 (va_A w sz) := by
  sorry
theorem q_X8_plain (l : Launch) (dC : Nat → ClassId) (dI : Nat → Nat → Nat) (cB cI cJ cZ cP cQ : ClassId) (adK adV : Nat → Nat) (q0 : Option Nat) (h0 sz : Nat) (w : va_W) (hI : IX cB cI cJ cZ cP cQ h0 w) : Met l yX8_plain wsX8_plain ({ frames := 2, cells := 0, slots := 0, locals := 53 } : Room) (sPc [.ref h0] (dC, dI) (zT cB cI cJ cZ cP cQ) w sz zNW zAO adK adV q0) (va_Ql (fun (r : Int64) (x : va_W) => IX cB cI cJ cZ cP cQ h0 x ∧ True) (zB (dC, dI) (zT cB cI cJ cZ cP cQ) (fun x : va_W => x) w sz) (va_A w sz)) 0 0 (va_A w sz) := by
  sorry
theorem q_X9_plain (l : Launch) (dC : Nat → ClassId) (dI : Nat → Nat → Nat) (cB cI cJ cZ cP cQ : ClassId) (adK adV : Nat → Nat) (q0 : Option Nat) (h0 sz : Nat) (w : va_W) (hI : IM cB cI cJ cZ cP cQ h0 w) : Met l yX9_plain wsX9_plain ({ frames := 2, cells := 0, slots := 0, locals := 44 } : Room) (sPc [.ref h0] (dC, dI) (zT cB cI cJ cZ cP cQ) w sz zNW zAO adK adV q0) (va_Ql (fun (r : Int64) (x : va_W) => IM cB cI cJ cZ cP cQ h0 x ∧ True) (zB (dC, dI) (zT cB cI cJ cZ cP cQ) (fun x : va_W => x) w sz) (va_A w sz)) 0 0 (va_A w sz) := by
  sorry
theorem q_X8_by (l : Launch) (dC : Nat → ClassId) (dI : Nat → Nat → Nat) (cB cI cJ cZ cP cQ : ClassId) (adK adV : Nat → Nat) (q0 : Option Nat) (h0 sz : Nat) (w : va_W) (p1 : Int32) (hI : IX cB cI cJ cZ cP cQ h0 w) : Met l yX8_by wsX8_by ({ frames := 3, cells := 0, slots := 0, locals := 68 } : Room) (sPc [.ref h0, .int p1] (dC, dI) (zT cB cI cJ cZ cP cQ) w sz zNW zAO adK adV q0) (va_Ql (fun (r : Int64) (x : va_W) => IX cB cI cJ cZ cP cQ h0 x ∧ True) (zB (dC, dI) (zT cB cI cJ cZ cP cQ) (fun x : va_W => x) w sz) (va_A w sz)) 0 0 (va_A w sz) := by
  sorry
theorem q_X9_by (l : Launch) (dC : Nat → ClassId) (dI : Nat → Nat → Nat) (cB cI cJ cZ cP cQ : ClassId) (adK adV : Nat → Nat) (q0 : Option Nat) (h0 sz : Nat) (w : va_W) (p1 : Int32) (hI : IM cB cI cJ cZ cP cQ h0 w) : Met l yX9_by wsX9_by ({ frames := 3, cells := 0, slots := 0, locals := 66 } : Room) (sPc [.ref h0, .int p1] (dC, dI) (zT cB cI cJ cZ cP cQ) w sz zNW zAO adK adV q0) (va_Ql (fun (r : Int64) (x : va_W) => IM cB cI cJ cZ cP cQ h0 x ∧ True) (zB (dC, dI) (zT cB cI cJ cZ cP cQ) (fun x : va_W => x) w sz) (va_A w sz)) 0 0 (va_A w sz) := by
  sorry
theorem q_X8_many (l : Launch) (dC : Nat → ClassId) (dI : Nat → Nat → Nat) (cB cI cJ cZ cP cQ : ClassId) (adK adV : Nat → Nat) (q0 : Option Nat) (h0 sz : Nat) (w : va_W) (hI : IX cB cI cJ cZ cP cQ h0 w) : Met l yX8_many wsX8_many ({ frames := 3, cells := 0, slots := 0, locals := 74 } : Room) (sPc [.ref h0] (dC, dI) (zT cB cI cJ cZ cP cQ) w sz zNW zAO adK adV q0) (va_Ql (fun (r : Int64) (x : va_W) => IX cB cI cJ cZ cP cQ h0 x ∧ True) (zB (dC, dI) (zT cB cI cJ cZ cP cQ) (fun x : va_W => x) w sz) (va_A w sz)) 0 0 (va_A w sz) := by
  sorry
theorem q_X9_many (l : Launch) (dC : Nat → ClassId) (dI : Nat → Nat → Nat) (cB cI cJ cZ cP cQ : ClassId) (adK adV : Nat → Nat) (q0 : Option Nat) (h0 sz : Nat) (w : va_W) (hI : IM cB cI cJ cZ cP cQ h0 w) : Met l yX9_many wsX9_many ({ frames := 2, cells := 0, slots := 0, locals := 49 } : Room) (sPc [.ref h0] (dC, dI) (zT cB cI cJ cZ cP cQ) w sz zNW zAO adK adV q0) (va_Ql (fun (r : Int64) (x : va_W) => IM cB cI cJ cZ cP cQ h0 x ∧ True) (zB (dC, dI) (zT cB cI cJ cZ cP cQ) (fun x : va_W => x) w sz) (va_A w sz)) 0 0 (va_A w sz) := by
  sorry
theorem q_X8_groups (l : Launch) (dC : Nat → ClassId) (dI : Nat → Nat → Nat) (cB cI cJ cZ cP cQ : ClassId) (adK adV : Nat → Nat) (q0 : Option Nat) (h0 sz : Nat) (w : va_W) (hI : IX cB cI cJ cZ cP cQ h0 w) : Met l yX8_groups wsX8_groups ({ frames := 2, cells := 0, slots := 0, locals := 47 } : Room) (sPc [.ref h0] (dC, dI) (zT cB cI cJ cZ cP cQ) w sz zNW zAO adK adV q0) (va_Qi (fun (r : Int32) (x : va_W) => IX cB cI cJ cZ cP cQ h0 x ∧ True) (zB (dC, dI) (zT cB cI cJ cZ cP cQ) (fun x : va_W => x) w sz) (va_A w sz)) 0 0 (va_A w sz) := by
  sorry
theorem q_X9_groups (l : Launch) (dC : Nat → ClassId) (dI : Nat → Nat → Nat) (cB cI cJ cZ cP cQ : ClassId) (adK adV : Nat → Nat) (q0 : Option Nat) (h0 sz : Nat) (w : va_W) (hI : IM cB cI cJ cZ cP cQ h0 w) : Met l yX9_groups wsX9_groups ({ frames := 1, cells := 0, slots := 0, locals := 22 } : Room) (sPc [.ref h0] (dC, dI) (zT cB cI cJ cZ cP cQ) w sz zNW zAO adK adV q0) (va_Qi (fun (r : Int32) (x : va_W) => IM cB cI cJ cZ cP cQ h0 x ∧ True) (zB (dC, dI) (zT cB cI cJ cZ cP cQ) (fun x : va_W => x) w sz) (va_A w sz)) 0 0 (va_A w sz) := by
  sorry
theorem q_X8_moves (l : Launch) (dC : Nat → ClassId) (dI : Nat → Nat → Nat) (cB cI cJ cZ cP cQ : ClassId) (adK adV : Nat → Nat) (q0 : Option Nat) (h0 sz : Nat) (w : va_W) (p1 : Int32) (hI : IX cB cI cJ cZ cP cQ h0 w) : Met l yX8_moves wsX8_moves ({ frames := 3, cells := 0, slots := 0, locals := 65 } : Room) (sPc [.ref h0, .int p1] (dC, dI) (zT cB cI cJ cZ cP cQ) w sz zNW zAO adK adV q0) (va_Ql (fun (r : Int64) (x : va_W) => IX cB cI cJ cZ cP cQ h0 x ∧ True) (zB (dC, dI) (zT cB cI cJ cZ cP cQ) (fun x : va_W => x) w sz) (va_A w sz)) 0 0 (va_A w sz) := by
  sorry
theorem q_X9_moves (l : Launch) (dC : Nat → ClassId) (dI : Nat → Nat → Nat) (cB cI cJ cZ cP cQ : ClassId) (adK adV : Nat → Nat) (q0 : Option Nat) (h0 sz : Nat) (w : va_W) (p1 : Int32) (hI : IM cB cI cJ cZ cP cQ h0 w) : Met l yX9_moves wsX9_moves ({ frames := 2, cells := 0, slots := 0, locals := 45 } : Room) (sPc [.ref h0, .int p1] (dC, dI) (zT cB cI cJ cZ cP cQ) w sz zNW zAO adK adV q0) (va_Ql (fun (r : Int64) (x : va_W) => IM cB cI cJ cZ cP cQ h0 x ∧ True) (zB (dC, dI) (zT cB cI cJ cZ cP cQ) (fun x : va_W => x) w sz) (va_A w sz)) 0 0 (va_A w sz) := by
  sorry
theorem q_X8_strong (l : Launch) (dC : Nat → ClassId) (dI : Nat → Nat → Nat) (cB cI cJ cZ cP cQ : ClassId) (adK adV : Nat → Nat) (q0 : Option Nat) (h0 sz : Nat) (w : va_W) (p1 : Int32) (hI : IX cB cI cJ cZ cP cQ h0 w) : Met l yX8_strong wsX8_strong ({ frames := 3, cells := 0, slots := 0, locals := 65 } : Room) (sPc [.ref h0, .int p1] (dC, dI) (zT cB cI cJ cZ cP cQ) w sz zNW zAO adK adV q0) (va_Ql (fun (r : Int64) (x : va_W) => IX cB cI cJ cZ cP cQ h0 x ∧ True) (zB (dC, dI) (zT cB cI cJ cZ cP cQ) (fun x : va_W => x) w sz) (va_A w sz)) 0 0 (va_A w sz) := by
  sorry
theorem q_X9_strong (l : Launch) (dC : Nat → ClassId) (dI : Nat → Nat → Nat) (cB cI cJ cZ cP cQ : ClassId) (adK adV : Nat → Nat) (q0 : Option Nat) (h0 sz : Nat) (w : va_W) (p1 : Int32) (hI : IM cB cI cJ cZ cP cQ h0 w) : Met l yX9_strong wsX9_strong ({ frames := 3, cells := 0, slots := 0, locals := 71 } : Room) (sPc [.ref h0, .int p1] (dC, dI) (zT cB cI cJ cZ cP cQ) w sz zNW zAO adK adV q0) (va_Ql (fun (r : Int64) (x : va_W) => IM cB cI cJ cZ cP cQ h0 x ∧ True) (zB (dC, dI) (zT cB cI cJ cZ cP cQ) (fun x : va_W => x) w sz) (va_A w sz)) 0 0 (va_A w sz) := by
  sorry
theorem q_X8_strongest (l : Launch) (dC : Nat → ClassId) (dI : Nat → Nat → Nat) (cB cI cJ cZ cP cQ : ClassId) (adK adV : Nat → Nat) (q0 : Option Nat) (h0 sz : Nat) (w : va_W) (hI : IX cB cI cJ cZ cP cQ h0 w) : Met l yX8_strongest wsX8_strongest ({ frames := 3, cells := 0, slots := 0, locals := 65 } : Room) (sPc [.ref h0] (dC, dI) (zT cB cI cJ cZ cP cQ) w sz zNW zAO adK adV q0) (va_Qi (fun (r : Int32) (x : va_W) => IX cB cI cJ cZ cP cQ h0 x ∧ True) (zB (dC, dI) (zT cB cI cJ cZ cP cQ) (fun x : va_W => x) w sz) (va_A w sz)) 0 0 (va_A w sz) := by
  sorry
theorem q_X9_strongest (l : Launch) (dC : Nat → ClassId) (dI : Nat → Nat → Nat) (cB cI cJ cZ cP cQ : ClassId) (adK adV : Nat → Nat) (q0 : Option Nat) (h0 sz : Nat) (w : va_W) (hI : IM cB cI cJ cZ cP cQ h0 w) : Met l yX9_strongest wsX9_strongest ({ frames := 3, cells := 0, slots := 0, locals := 71 } : Room) (sPc [.ref h0] (dC, dI) (zT cB cI cJ cZ cP cQ) w sz zNW zAO adK adV q0) (va_Qi (fun (r : Int32) (x : va_W) => IM cB cI cJ cZ cP cQ h0 x ∧ True) (zB (dC, dI) (zT cB cI cJ cZ cP cQ) (fun x : va_W => x) w sz) (va_A w sz)) 0 0 (va_A w sz) := by
  sorry
theorem q_X8_span (l : Launch) (dC : Nat → ClassId) (dI : Nat → Nat → Nat) (cB cI cJ cZ cP cQ : ClassId) (adK adV : Nat → Nat) (q0 : Option Nat) (h0 sz : Nat) (w : va_W) (p1 : Int32) (p2 : Int32) (p3 : Int32) (hI : IX cB cI cJ cZ cP cQ h0 w) : Met l yX8_span wsX8_span ({ frames := 6, cells := 0, slots := 0, locals := 147 } : Room) (sPc [.ref h0, .int p1, .int p2, .int p3] (dC, dI) (zT cB cI cJ cZ cP cQ) w sz zNW zAO adK adV q0) (va_Qi (fun (r : Int32) (x : va_W) => IX cB cI cJ cZ cP cQ h0 x ∧ True) (zB (dC, dI) (zT cB cI cJ cZ cP cQ) (fun x : va_W => x) w sz) (va_A w sz)) 0 0 (va_A w sz) := by
  sorry
theorem q_X9_span (l : Launch) (dC : Nat → ClassId) (dI : Nat → Nat → Nat) (cB cI cJ cZ cP cQ : ClassId) (adK adV : Nat → Nat) (q0 : Option Nat) (h0 sz : Nat) (w : va_W) (p1 : Int32) (p2 : Int32) (p3 : Int32) (hI : IM cB cI cJ cZ cP cQ h0 w) : Met l yX9_span wsX9_span ({ frames := 3, cells := 0, slots := 0, locals := 66 } : Room) (sPc [.ref h0, .int p1, .int p2, .int p3] (dC, dI) (zT cB cI cJ cZ cP cQ) w sz zNW zAO adK adV q0) (va_Qi (fun (r : Int32) (x : va_W) => IM cB cI cJ cZ cP cQ h0 x ∧ True) (zB (dC, dI) (zT cB cI cJ cZ cP cQ) (fun x : va_W => x) w sz) (va_A w sz)) 0 0 (va_A w sz) := by
  sorry
theorem q_X8_usual (l : Launch) (dC : Nat → ClassId) (dI : Nat → Nat → Nat) (cB cI cJ cZ cP cQ : ClassId) (adK adV : Nat → Nat) (q0 : Option Nat) (h0 sz : Nat) (w : va_W) (p1 : Int32) (p2 : Int32) (p3 : Int32) (hI : IX cB cI cJ cZ cP cQ h0 w) : Met l yX8_usual wsX8_usual ({ frames := 6, cells := 0, slots := 0, locals := 147 } : Room) (sPc [.ref h0, .int p1, .int p2, .int p3] (dC, dI) (zT cB cI cJ cZ cP cQ) w sz zNW zAO adK adV q0) (va_Qi (fun (r : Int32) (x : va_W) => IX cB cI cJ cZ cP cQ h0 x ∧ True) (zB (dC, dI) (zT cB cI cJ cZ cP cQ) (fun x : va_W => x) w sz) (va_A w sz)) 0 0 (va_A w sz) := by
  sorry
theorem q_X9_usual (l : Launch) (dC : Nat → ClassId) (dI : Nat → Nat → Nat) (cB cI cJ cZ cP cQ : ClassId) (adK adV : Nat → Nat) (q0 : Option Nat) (h0 sz : Nat) (w : va_W) (p1 : Int32) (p2 : Int32) (p3 : Int32) (hI : IM cB cI cJ cZ cP cQ h0 w) : Met l yX9_usual wsX9_usual ({ frames := 3, cells := 0, slots := 0, locals := 70 } : Room) (sPc [.ref h0, .int p1, .int p2, .int p3] (dC, dI) (zT cB cI cJ cZ cP cQ) w sz zNW zAO adK adV q0) (va_Qi (fun (r : Int32) (x : va_W) => IM cB cI cJ cZ cP cQ h0 x ∧ True) (zB (dC, dI) (zT cB cI cJ cZ cP cQ) (fun x : va_W => x) w sz) (va_A w sz)) 0 0 (va_A w sz) := by
  sorry
theorem q_X8_kept (l : Launch) (dC : Nat → ClassId) (dI : Nat → Nat → Nat) (cB cI cJ cZ cP cQ : ClassId) (adK adV : Nat → Nat) (q0 : Option Nat) (h0 sz : Nat) (w : va_W) (p1 : Int32) (p2 : Int32) (p3 : Int32) (hI : IX cB cI cJ cZ cP cQ h0 w) : Met l yX8_kept wsX8_kept ({ frames := 4, cells := 0, slots := 0, locals := 98 } : Room) (sPc [.ref h0, .int p1, .int p2, .int p3] (dC, dI) (zT cB cI cJ cZ cP cQ) w sz zNW zAO adK adV q0) (va_Qi (fun (r : Int32) (x : va_W) => IX cB cI cJ cZ cP cQ h0 x ∧ True) (zB (dC, dI) (zT cB cI cJ cZ cP cQ) (fun x : va_W => x) w sz) (va_A w sz)) 0 0 (va_A w sz) := by
  sorry
theorem q_X9_kept (l : Launch) (dC : Nat → ClassId) (dI : Nat → Nat → Nat) (cB cI cJ cZ cP cQ : ClassId) (adK adV : Nat → Nat) (q0 : Option Nat) (h0 sz : Nat) (w : va_W) (p1 : Int32) (p2 : Int32) (p3 : Int32) (hI : IM cB cI cJ cZ cP cQ h0 w) : Met l yX9_kept wsX9_kept ({ frames := 3, cells := 0, slots := 0, locals := 66 } : Room) (sPc [.ref h0, .int p1, .int p2, .int p3] (dC, dI) (zT cB cI cJ cZ cP cQ) w sz zNW zAO adK adV q0) (va_Qi (fun (r : Int32) (x : va_W) => IM cB cI cJ cZ cP cQ h0 x ∧ True) (zB (dC, dI) (zT cB cI cJ cZ cP cQ) (fun x : va_W => x) w sz) (va_A w sz)) 0 0 (va_A w sz) := by
  sorry
theorem q_X8_hats (l : Launch) (dC : Nat → ClassId) (dI : Nat → Nat → Nat) (cB cI cJ cZ cP cQ : ClassId) (adK adV : Nat → Nat) (q0 : Option Nat) (h0 sz : Nat) (w : va_W) (p1 : Int32) (p2 : Int32) (p3 : Int32) (p4 : Int32) (hI : IX cB cI cJ cZ cP cQ h0 w) : Met l yX8_hats wsX8_hats ({ frames := 5, cells := 0, slots := 0, locals := 124 } : Room) (sPc [.ref h0, .int p1, .int p2, .int p3, .int p4] (dC, dI) (zT cB cI cJ cZ cP cQ) w sz zNW zAO adK adV q0) (va_Qi (fun (r : Int32) (x : va_W) => IX cB cI cJ cZ cP cQ h0 x ∧ True) (zB (dC, dI) (zT cB cI cJ cZ cP cQ) (fun x : va_W => x) w sz) (va_A w sz)) 0 0 (va_A w sz) := by
  sorry
theorem q_X9_hats (l : Launch) (dC : Nat → ClassId) (dI : Nat → Nat → Nat) (cB cI cJ cZ cP cQ : ClassId) (adK adV : Nat → Nat) (q0 : Option Nat) (h0 sz : Nat) (w : va_W) (p1 : Int32) (p2 : Int32) (p3 : Int32) (p4 : Int32) (hI : IM cB cI cJ cZ cP cQ h0 w) : Met l yX9_hats wsX9_hats ({ frames := 3, cells := 0, slots := 0, locals := 70 } : Room) (sPc [.ref h0, .int p1, .int p2, .int p3, .int p4] (dC, dI) (zT cB cI cJ cZ cP cQ) w sz zNW zAO adK adV q0) (va_Qi (fun (r : Int32) (x : va_W) => IM cB cI cJ cZ cP cQ h0 x ∧ True) (zB (dC, dI) (zT cB cI cJ cZ cP cQ) (fun x : va_W => x) w sz) (va_A w sz)) 0 0 (va_A w sz) := by
  sorry
theorem q_X8_leak (l : Launch) (dC : Nat → ClassId) (dI : Nat → Nat → Nat) (cB cI cJ cZ cP cQ : ClassId) (adK adV : Nat → Nat) (q0 : Option Nat) (h0 sz : Nat) (w : va_W) (p1 : Int32) (hI : IX cB cI cJ cZ cP cQ h0 w) : Met l yX8_leak wsX8_leak ({ frames := 3, cells := 0, slots := 0, locals := 65 } : Room) (sPc [.ref h0, .int p1] (dC, dI) (zT cB cI cJ cZ cP cQ) w sz zNW zAO adK adV q0) (va_Ql (fun (r : Int64) (x : va_W) => IX cB cI cJ cZ cP cQ h0 x ∧ True) (zB (dC, dI) (zT cB cI cJ cZ cP cQ) (fun x : va_W => x) w sz) (va_A w sz)) 0 0 (va_A w sz) := by
  sorry
theorem q_X9_leak (l : Launch) (dC : Nat → ClassId) (dI : Nat → Nat → Nat) (cB cI cJ cZ cP cQ : ClassId) (adK adV : Nat → Nat) (q0 : Option Nat) (h0 sz : Nat) (w : va_W) (p1 : Int32) (hI : IM cB cI cJ cZ cP cQ h0 w) : Met l yX9_leak wsX9_leak ({ frames := 2, cells := 0, slots := 0, locals := 45 } : Room) (sPc [.ref h0, .int p1] (dC, dI) (zT cB cI cJ cZ cP cQ) w sz zNW zAO adK adV q0) (va_Ql (fun (r : Int64) (x : va_W) => IM cB cI cJ cZ cP cQ h0 x ∧ True) (zB (dC, dI) (zT cB cI cJ cZ cP cQ) (fun x : va_W => x) w sz) (va_A w sz)) 0 0 (va_A w sz) := by
  sorry
theorem q_X8_leaked (l : Launch) (dC : Nat → ClassId) (dI : Nat → Nat → Nat) (cB cI cJ cZ cP cQ : ClassId) (adK adV : Nat → Nat) (q0 : Option Nat) (h0 sz : Nat) (w : va_W) (p1 : Int32) (p2 : Int32) (hI : IX cB cI cJ cZ cP cQ h0 w) : Met l yX8_leaked wsX8_leaked ({ frames := 3, cells := 0, slots := 0, locals := 65 } : Room) (sPc [.ref h0, .int p1, .int p2] (dC, dI) (zT cB cI cJ cZ cP cQ) w sz zNW zAO adK adV q0) (va_Ql (fun (r : Int64) (x : va_W) => IX cB cI cJ cZ cP cQ h0 x ∧ True) (zB (dC, dI) (zT cB cI cJ cZ cP cQ) (fun x : va_W => x) w sz) (va_A w sz)) 0 0 (va_A w sz) := by
  sorry
theorem q_X9_leaked (l : Launch) (dC : Nat → ClassId) (dI : Nat → Nat → Nat) (cB cI cJ cZ cP cQ : ClassId) (adK adV : Nat → Nat) (q0 : Option Nat) (h0 sz : Nat) (w : va_W) (p1 : Int32) (p2 : Int32) (hI : IM cB cI cJ cZ cP cQ h0 w) : Met l yX9_leaked wsX9_leaked ({ frames := 3, cells := 0, slots := 0, locals := 66 } : Room) (sPc [.ref h0, .int p1, .int p2] (dC, dI) (zT cB cI cJ cZ cP cQ) w sz zNW zAO adK adV q0) (va_Ql (fun (r : Int64) (x : va_W) => IM cB cI cJ cZ cP cQ h0 x ∧ True) (zB (dC, dI) (zT cB cI cJ cZ cP cQ) (fun x : va_W => x) w sz) (va_A w sz)) 0 0 (va_A w sz) := by
  sorry
theorem q_X8_homes (l : Launch) (dC : Nat → ClassId) (dI : Nat → Nat → Nat) (cB cI cJ cZ cP cQ : ClassId) (adK adV : Nat → Nat) (q0 : Option Nat) (h0 sz : Nat) (w : va_W) (p1 : Int32) (hI : IX cB cI cJ cZ cP cQ h0 w) : Met l yX8_homes wsX8_homes ({ frames := 3, cells := 0, slots := 0, locals := 65 } : Room) (sPc [.ref h0, .int p1] (dC, dI) (zT cB cI cJ cZ cP cQ) w sz zNW zAO adK adV q0) (va_Ql (fun (r : Int64) (x : va_W) => IX cB cI cJ cZ cP cQ h0 x ∧ True) (zB (dC, dI) (zT cB cI cJ cZ cP cQ) (fun x : va_W => x) w sz) (va_A w sz)) 0 0 (va_A w sz) := by
  sorry
theorem q_X9_homes (l : Launch) (dC : Nat → ClassId) (dI : Nat → Nat → Nat) (cB cI cJ cZ cP cQ : ClassId) (adK adV : Nat → Nat) (q0 : Option Nat) (h0 sz : Nat) (w : va_W) (p1 : Int32) (hI : IM cB cI cJ cZ cP cQ h0 w) : Met l yX9_homes wsX9_homes ({ frames := 2, cells := 0, slots := 0, locals := 45 } : Room) (sPc [.ref h0, .int p1] (dC, dI) (zT cB cI cJ cZ cP cQ) w sz zNW zAO adK adV q0) (va_Ql (fun (r : Int64) (x : va_W) => IM cB cI cJ cZ cP cQ h0 x ∧ True) (zB (dC, dI) (zT cB cI cJ cZ cP cQ) (fun x : va_W => x) w sz) (va_A w sz)) 0 0 (va_A w sz) := by
  sorry
theorem q_X8_whom (l : Launch) (dC : Nat → ClassId) (dI : Nat → Nat → Nat) (cB cI cJ cZ cP cQ : ClassId) (adK adV : Nat → Nat) (q0 : Option Nat) (h0 sz : Nat) (w : va_W) (p1 : Int32) (hI : IX cB cI cJ cZ cP cQ h0 w) : Met l yX8_whom wsX8_whom ({ frames := 5, cells := 0, slots := 0, locals := 127 } : Room) (sPc [.ref h0, .int p1] (dC, dI) (zT cB cI cJ cZ cP cQ) w sz zNW zAO adK adV q0) (va_Qi (fun (r : Int32) (x : va_W) => IX cB cI cJ cZ cP cQ h0 x ∧ True) (zB (dC, dI) (zT cB cI cJ cZ cP cQ) (fun x : va_W => x) w sz) (va_A w sz)) 0 0 (va_A w sz) := by
  sorry
theorem q_X9_whom (l : Launch) (dC : Nat → ClassId) (dI : Nat → Nat → Nat) (cB cI cJ cZ cP cQ : ClassId) (adK adV : Nat → Nat) (q0 : Option Nat) (h0 sz : Nat) (w : va_W) (p1 : Int32) (hI : IM cB cI cJ cZ cP cQ h0 w) : Met l yX9_whom wsX9_whom ({ frames := 4, cells := 0, slots := 0, locals := 99 } : Room) (sPc [.ref h0, .int p1] (dC, dI) (zT cB cI cJ cZ cP cQ) w sz zNW zAO adK adV q0) (va_Qi (fun (r : Int32) (x : va_W) => IM cB cI cJ cZ cP cQ h0 x ∧ True) (zB (dC, dI) (zT cB cI cJ cZ cP cQ) (fun x : va_W => x) w sz) (va_A w sz)) 0 0 (va_A w sz) := by
  sorry
theorem q_X8_truth (l : Launch) (dC : Nat → ClassId) (dI : Nat → Nat → Nat) (cB cI cJ cZ cP cQ : ClassId) (adK adV : Nat → Nat) (q0 : Option Nat) (h0 sz : Nat) (w : va_W) (p1 : Int32) (hb11 : 0 ≤ p1.toInt) (hb12 : p1.toInt ≤ 1) (hI : IX cB cI cJ cZ cP cQ h0 w) : Met l yX8_truth wsX8_truth ({ frames := 6, cells := 0, slots := 0, locals := 154 } : Room) (sPc [.ref h0, .int p1] (dC, dI) (zT cB cI cJ cZ cP cQ) w sz zNW zAO adK adV q0) (va_Ql (fun (r : Int64) (x : va_W) => IX cB cI cJ cZ cP cQ h0 x ∧ True) (zB (dC, dI) (zT cB cI cJ cZ cP cQ) (fun x : va_W => x) w sz) (va_A w sz)) 0 0 (va_A w sz) := by
  sorry
theorem q_X9_truth (l : Launch) (dC : Nat → ClassId) (dI : Nat → Nat → Nat) (cB cI cJ cZ cP cQ : ClassId) (adK adV : Nat → Nat) (q0 : Option Nat) (h0 sz : Nat) (w : va_W) (p1 : Int32) (hb12 : 0 ≤ p1.toInt) (hb13 : p1.toInt ≤ 1) (hI : IM cB cI cJ cZ cP cQ h0 w) : Met l yX9_truth wsX9_truth ({ frames := 5, cells := 0, slots := 0, locals := 125 } : Room) (sPc [.ref h0, .int p1] (dC, dI) (zT cB cI cJ cZ cP cQ) w sz zNW zAO adK adV q0) (va_Ql (fun (r : Int64) (x : va_W) => IM cB cI cJ cZ cP cQ h0 x ∧ True) (zB (dC, dI) (zT cB cI cJ cZ cP cQ) (fun x : va_W => x) w sz) (va_A w sz)) 0 0 (va_A w sz) := by
  sorry
theorem q_X8_leans (l : Launch) (dC : Nat → ClassId) (dI : Nat → Nat → Nat) (cB cI cJ cZ cP cQ : ClassId) (adK adV : Nat → Nat) (q0 : Option Nat) (h0 sz : Nat) (w : va_W) (p1 : Int32) (p2 : Int32) (hI : IX cB cI cJ cZ cP cQ h0 w) : Met l yX8_leans wsX8_leans ({ frames := 7, cells := 0, slots := 0, locals := 180 } : Room) (sPc [.ref h0, .int p1, .int p2] (dC, dI) (zT cB cI cJ cZ cP cQ) w sz zNW zAO adK adV q0) (va_Ql (fun (r : Int64) (x : va_W) => IX cB cI cJ cZ cP cQ h0 x ∧ True) (zB (dC, dI) (zT cB cI cJ cZ cP cQ) (fun x : va_W => x) w sz) (va_A w sz)) 0 0 (va_A w sz) := by
  sorry
theorem q_X9_leans (l : Launch) (dC : Nat → ClassId) (dI : Nat → Nat → Nat) (cB cI cJ cZ cP cQ : ClassId) (adK adV : Nat → Nat) (q0 : Option Nat) (h0 sz : Nat) (w : va_W) (p1 : Int32) (p2 : Int32) (hI : IM cB cI cJ cZ cP cQ h0 w) : Met l yX9_leans wsX9_leans ({ frames := 6, cells := 0, slots := 0, locals := 151 } : Room) (sPc [.ref h0, .int p1, .int p2] (dC, dI) (zT cB cI cJ cZ cP cQ) w sz zNW zAO adK adV q0) (va_Ql (fun (r : Int64) (x : va_W) => IM cB cI cJ cZ cP cQ h0 x ∧ True) (zB (dC, dI) (zT cB cI cJ cZ cP cQ) (fun x : va_W => x) w sz) (va_A w sz)) 0 0 (va_A w sz) := by
  sorry
theorem q_X8_least (l : Launch) (dC : Nat → ClassId) (dI : Nat → Nat → Nat) (cB cI cJ cZ cP cQ : ClassId) (adK adV : Nat → Nat) (q0 : Option Nat) (h0 sz : Nat) (w : va_W) (p1 : Int32) (hI : IX cB cI cJ cZ cP cQ h0 w) : Met l yX8_least wsX8_least ({ frames := 7, cells := 0, slots := 0, locals := 180 } : Room) (sPc [.ref h0, .int p1] (dC, dI) (zT cB cI cJ cZ cP cQ) w sz zNW zAO adK adV q0) (va_Qi (fun (r : Int32) (x : va_W) => IX cB cI cJ cZ cP cQ h0 x ∧ True) (zB (dC, dI) (zT cB cI cJ cZ cP cQ) (fun x : va_W => x) w sz) (va_A w sz)) 0 0 (va_A w sz) := by
  sorry
theorem q_X9_least (l : Launch) (dC : Nat → ClassId) (dI : Nat → Nat → Nat) (cB cI cJ cZ cP cQ : ClassId) (adK adV : Nat → Nat) (q0 : Option Nat) (h0 sz : Nat) (w : va_W) (p1 : Int32) (hI : IM cB cI cJ cZ cP cQ h0 w) : Met l yX9_least wsX9_least ({ frames := 6, cells := 0, slots := 0, locals := 151 } : Room) (sPc [.ref h0, .int p1] (dC, dI) (zT cB cI cJ cZ cP cQ) w sz zNW zAO adK adV q0) (va_Qi (fun (r : Int32) (x : va_W) => IM cB cI cJ cZ cP cQ h0 x ∧ True) (zB (dC, dI) (zT cB cI cJ cZ cP cQ) (fun x : va_W => x) w sz) (va_A w sz)) 0 0 (va_A w sz) := by
  sorry
theorem q_X8_beside (l : Launch) (dC : Nat → ClassId) (dI : Nat → Nat → Nat) (cB cI cJ cZ cP cQ : ClassId) (adK adV : Nat → Nat) (q0 : Option Nat) (h0 sz : Nat) (w : va_W) (p1 : Int32) (p2 : Int32) (hI : IX cB cI cJ cZ cP cQ h0 w) : Met l yX8_beside wsX8_beside ({ frames := 4, cells := 0, slots := 0, locals := 101 } : Room) (sPc [.ref h0, .int p1, .int p2] (dC, dI) (zT cB cI cJ cZ cP cQ) w sz zNW zAO adK adV q0) (va_Qi (fun (r : Int32) (x : va_W) => IX cB cI cJ cZ cP cQ h0 x ∧ True) (zB (dC, dI) (zT cB cI cJ cZ cP cQ) (fun x : va_W => x) w sz) (va_A w sz)) 0 0 (va_A w sz) := by
  sorry
theorem q_X9_beside (l : Launch) (dC : Nat → ClassId) (dI : Nat → Nat → Nat) (cB cI cJ cZ cP cQ : ClassId) (adK adV : Nat → Nat) (q0 : Option Nat) (h0 sz : Nat) (w : va_W) (p1 : Int32) (p2 : Int32) (hI : IM cB cI cJ cZ cP cQ h0 w) : Met l yX9_beside wsX9_beside ({ frames := 3, cells := 0, slots := 0, locals := 77 } : Room) (sPc [.ref h0, .int p1, .int p2] (dC, dI) (zT cB cI cJ cZ cP cQ) w sz zNW zAO adK adV q0) (va_Qi (fun (r : Int32) (x : va_W) => IM cB cI cJ cZ cP cQ h0 x ∧ True) (zB (dC, dI) (zT cB cI cJ cZ cP cQ) (fun x : va_W => x) w sz) (va_A w sz)) 0 0 (va_A w sz) := by
  sorry
theorem q_X8_needs (l : Launch) (dC : Nat → ClassId) (dI : Nat → Nat → Nat) (cB cI cJ cZ cP cQ : ClassId) (adK adV : Nat → Nat) (q0 : Option Nat) (h0 sz : Nat) (w : va_W) (p1 : Int32) (p2 : Int32) (hI : IX cB cI cJ cZ cP cQ h0 w) : Met l yX8_needs wsX8_needs ({ frames := 3, cells := 0, slots := 0, locals := 64 } : Room) (sPc [.ref h0, .int p1, .int p2] (dC, dI) (zT cB cI cJ cZ cP cQ) w sz zNW zAO adK adV q0) (va_Qi (fun (r : Int32) (x : va_W) => IX cB cI cJ cZ cP cQ h0 x ∧ True) (zB (dC, dI) (zT cB cI cJ cZ cP cQ) (fun x : va_W => x) w sz) (va_A w sz)) 0 0 (va_A w sz) := by
  sorry
theorem q_X9_needs (l : Launch) (dC : Nat → ClassId) (dI : Nat → Nat → Nat) (cB cI cJ cZ cP cQ : ClassId) (adK adV : Nat → Nat) (q0 : Option Nat) (h0 sz : Nat) (w : va_W) (p1 : Int32) (p2 : Int32) (hI : IM cB cI cJ cZ cP cQ h0 w) : Met l yX9_needs wsX9_needs ({ frames := 3, cells := 0, slots := 0, locals := 71 } : Room) (sPc [.ref h0, .int p1, .int p2] (dC, dI) (zT cB cI cJ cZ cP cQ) w sz zNW zAO adK adV q0) (va_Qi (fun (r : Int32) (x : va_W) => IM cB cI cJ cZ cP cQ h0 x ∧ True) (zB (dC, dI) (zT cB cI cJ cZ cP cQ) (fun x : va_W => x) w sz) (va_A w sz)) 0 0 (va_A w sz) := by
  sorry
theorem q_X8_worlds (l : Launch) (dC : Nat → ClassId) (dI : Nat → Nat → Nat) (cB cI cJ cZ cP cQ : ClassId) (adK adV : Nat → Nat) (q0 : Option Nat) (h0 sz : Nat) (w : va_W) (p1 : Int32) (p2 : Int32) (p3 : Int32) (p4 : Int32) (p5 : Int32) (hI : IX cB cI cJ cZ cP cQ h0 w) : Met l yX8_worlds wsX8_worlds ({ frames := 7, cells := 0, slots := 0, locals := 181 } : Room) (sPc [.ref h0, .int p1, .int p2, .int p3, .int p4, .int p5] (dC, dI) (zT cB cI cJ cZ cP cQ) w sz zNW zAO adK adV q0) (va_Qi (fun (r : Int32) (x : va_W) => IX cB cI cJ cZ cP cQ h0 x ∧ True) (zB (dC, dI) (zT cB cI cJ cZ cP cQ) (fun x : va_W => x) w sz) (va_A w sz)) 0 0 (va_A w sz) := by
  sorry
theorem q_X9_worlds (l : Launch) (dC : Nat → ClassId) (dI : Nat → Nat → Nat) (cB cI cJ cZ cP cQ : ClassId) (adK adV : Nat → Nat) (q0 : Option Nat) (h0 sz : Nat) (w : va_W) (p1 : Int32) (p2 : Int32) (p3 : Int32) (p4 : Int32) (p5 : Int32) (hI : IM cB cI cJ cZ cP cQ h0 w) : Met l yX9_worlds wsX9_worlds ({ frames := 6, cells := 0, slots := 0, locals := 152 } : Room) (sPc [.ref h0, .int p1, .int p2, .int p3, .int p4, .int p5] (dC, dI) (zT cB cI cJ cZ cP cQ) w sz zNW zAO adK adV q0) (va_Qi (fun (r : Int32) (x : va_W) => IM cB cI cJ cZ cP cQ h0 x ∧ True) (zB (dC, dI) (zT cB cI cJ cZ cP cQ) (fun x : va_W => x) w sz) (va_A w sz)) 0 0 (va_A w sz) := by
  sorry
theorem q_X8_only (l : Launch) (dC : Nat → ClassId) (dI : Nat → Nat → Nat) (cB cI cJ cZ cP cQ : ClassId) (adK adV : Nat → Nat) (q0 : Option Nat) (h0 sz : Nat) (w : va_W) (p1 : Int32) (hI : IX cB cI cJ cZ cP cQ h0 w) : Met l yX8_only wsX8_only ({ frames := 2, cells := 0, slots := 0, locals := 49 } : Room) (sPc [.ref h0, .int p1] (dC, dI) (zT cB cI cJ cZ cP cQ) w sz zNW zAO adK adV q0) (va_Qi (fun (r : Int32) (x : va_W) => IX cB cI cJ cZ cP cQ h0 x ∧ True) (zB (dC, dI) (zT cB cI cJ cZ cP cQ) (fun x : va_W => x) w sz) (va_A w sz)) 0 0 (va_A w sz) := by
  sorry
theorem q_X9_only (l : Launch) (dC : Nat → ClassId) (dI : Nat → Nat → Nat) (cB cI cJ cZ cP cQ : ClassId) (adK adV : Nat → Nat) (q0 : Option Nat) (h0 sz : Nat) (w : va_W) (p1 : Int32) (hI : IM cB cI cJ cZ cP cQ h0 w) : Met l yX9_only wsX9_only ({ frames := 2, cells := 0, slots := 0, locals := 46 } : Room) (sPc [.ref h0, .int p1] (dC, dI) (zT cB cI cJ cZ cP cQ) w sz zNW zAO adK adV q0) (va_Qi (fun (r : Int32) (x : va_W) => IM cB cI cJ cZ cP cQ h0 x ∧ True) (zB (dC, dI) (zT cB cI cJ cZ cP cQ) (fun x : va_W => x) w sz) (va_A w sz)) 0 0 (va_A w sz) := by
  sorry
theorem q_X8_judge (l : Launch) (dC : Nat → ClassId) (dI : Nat → Nat → Nat) (cB cI cJ cZ cP cQ : ClassId) (adK adV : Nat → Nat) (q0 : Option Nat) (h0 sz : Nat) (w : va_W) (p1 : Int32) (hI : IX cB cI cJ cZ cP cQ h0 w) : Met l yX8_judge wsX8_judge ({ frames := 2, cells := 0, slots := 0, locals := 42 } : Room) (sPc [.ref h0, .int p1] (dC, dI) (zT cB cI cJ cZ cP cQ) w sz zNW zAO adK adV q0) (va_Qi (fun (r : Int32) (x : va_W) => IX cB cI cJ cZ cP cQ h0 x ∧ True) (zB (dC, dI) (zT cB cI cJ cZ cP cQ) (fun x : va_W => x) w sz) (va_A w sz)) 0 0 (va_A w sz) := by
  sorry
theorem q_X9_judge (l : Launch) (dC : Nat → ClassId) (dI : Nat → Nat → Nat) (cB cI cJ cZ cP cQ : ClassId) (adK adV : Nat → Nat) (q0 : Option Nat) (h0 sz : Nat) (w : va_W) (p1 : Int32) (hI : IM cB cI cJ cZ cP cQ h0 w) : Met l yX9_judge wsX9_judge ({ frames := 2, cells := 0, slots := 0, locals := 45 } : Room) (sPc [.ref h0, .int p1] (dC, dI) (zT cB cI cJ cZ cP cQ) w sz zNW zAO adK adV q0) (va_Qi (fun (r : Int32) (x : va_W) => IM cB cI cJ cZ cP cQ h0 x ∧ True) (zB (dC, dI) (zT cB cI cJ cZ cP cQ) (fun x : va_W => x) w sz) (va_A w sz)) 0 0 (va_A w sz) := by
  sorry
theorem q_X8_sheets (l : Launch) (dC : Nat → ClassId) (dI : Nat → Nat → Nat) (cB cI cJ cZ cP cQ : ClassId) (adK adV : Nat → Nat) (q0 : Option Nat) (h0 sz : Nat) (w : va_W) (p1 : Int32) (hI : IX cB cI cJ cZ cP cQ h0 w) : Met l yX8_sheets wsX8_sheets ({ frames := 2, cells := 0, slots := 0, locals := 54 } : Room) (sPc [.ref h0, .int p1] (dC, dI) (zT cB cI cJ cZ cP cQ) w sz zNW zAO adK adV q0) (va_Qi (fun (r : Int32) (x : va_W) => IX cB cI cJ cZ cP cQ h0 x ∧ True) (zB (dC, dI) (zT cB cI cJ cZ cP cQ) (fun x : va_W => x) w sz) (va_A w sz)) 0 0 (va_A w sz) := by
  sorry
theorem q_X9_sheets (l : Launch) (dC : Nat → ClassId) (dI : Nat → Nat → Nat) (cB cI cJ cZ cP cQ : ClassId) (adK adV : Nat → Nat) (q0 : Option Nat) (h0 sz : Nat) (w : va_W) (p1 : Int32) (hI : IM cB cI cJ cZ cP cQ h0 w) : Met l yX9_sheets wsX9_sheets ({ frames := 2, cells := 0, slots := 0, locals := 54 } : Room) (sPc [.ref h0, .int p1] (dC, dI) (zT cB cI cJ cZ cP cQ) w sz zNW zAO adK adV q0) (va_Qi (fun (r : Int32) (x : va_W) => IM cB cI cJ cZ cP cQ h0 x ∧ True) (zB (dC, dI) (zT cB cI cJ cZ cP cQ) (fun x : va_W => x) w sz) (va_A w sz)) 0 0 (va_A w sz) := by
  sorry
theorem q_X8_count (l : Launch) (dC : Nat → ClassId) (dI : Nat → Nat → Nat) (cB cI cJ cZ cP cQ : ClassId) (adK adV : Nat → Nat) (q0 : Option Nat) (h0 sz : Nat) (w : va_W) (p1 : Int32) (hI : IX cB cI cJ cZ cP cQ h0 w) : Met l yX8_count wsX8_count ({ frames := 2, cells := 0, slots := 0, locals := 42 } : Room) (sPc [.ref h0, .int p1] (dC, dI) (zT cB cI cJ cZ cP cQ) w sz zNW zAO adK adV q0) (va_Qi (fun (r : Int32) (x : va_W) => IX cB cI cJ cZ cP cQ h0 x ∧ True) (zB (dC, dI) (zT cB cI cJ cZ cP cQ) (fun x : va_W => x) w sz) (va_A w sz)) 0 0 (va_A w sz) := by
  sorry
theorem q_X9_count (l : Launch) (dC : Nat → ClassId) (dI : Nat → Nat → Nat) (cB cI cJ cZ cP cQ : ClassId) (adK adV : Nat → Nat) (q0 : Option Nat) (h0 sz : Nat) (w : va_W) (p1 : Int32) (hI : IM cB cI cJ cZ cP cQ h0 w) : Met l yX9_count wsX9_count ({ frames := 0, cells := 0, slots := 0, locals := 0 } : Room) (sPc [.ref h0, .int p1] (dC, dI) (zT cB cI cJ cZ cP cQ) w sz zNW zAO adK adV q0) (va_Qi (fun (r : Int32) (x : va_W) => IM cB cI cJ cZ cP cQ h0 x ∧ True) (zB (dC, dI) (zT cB cI cJ cZ cP cQ) (fun x : va_W => x) w sz) (va_A w sz)) 0 0 (va_A w sz) := by
  sorry
theorem q_X9_keep (l : Launch) (dC : Nat → ClassId) (dI : Nat → Nat → Nat) (cB cI cJ cZ cP cQ : ClassId) (adK adV : Nat → Nat) (q0 : Option Nat) (h0 sz : Nat) (w : va_W) (p1 : Int32) (hI : IM cB cI cJ cZ cP cQ h0 w) : Met l yX9_keep wsX9_keep ({ frames := 2, cells := 0, slots := 0, locals := 45 } : Room) (sPc [.ref h0, .int p1] (dC, dI) (zT cB cI cJ cZ cP cQ) w sz zNW zAO adK adV q0) (va_Qi (fun (r : Int32) (x : va_W) => IM cB cI cJ cZ cP cQ h0 x ∧ ((0 ≤ p1.toInt ∧ p1.toInt ≤ 2 ∧ r.toInt = 0) ∨ ((p1.toInt < 0 ∨ 2 < p1.toInt) ∧ r.toInt = -2))) (zB (dC, dI) (zT cB cI cJ cZ cP cQ) (fun x : va_W => x) w sz) (va_A w sz)) 0 0 (va_A w sz) := by
  sorry
theorem q_X9_back (l : Launch) (dC : Nat → ClassId) (dI : Nat → Nat → Nat) (cB cI cJ cZ cP cQ : ClassId) (adK adV : Nat → Nat) (q0 : Option Nat) (h0 sz : Nat) (w : va_W) (p1 : Int32) (hI : IM cB cI cJ cZ cP cQ h0 w) : Met l yX9_back wsX9_back ({ frames := 2, cells := 0, slots := 0, locals := 45 } : Room) (sPc [.ref h0, .int p1] (dC, dI) (zT cB cI cJ cZ cP cQ) w sz zNW zAO adK adV q0) (va_Qi (fun (r : Int32) (x : va_W) => IM cB cI cJ cZ cP cQ h0 x ∧ True) (zB (dC, dI) (zT cB cI cJ cZ cP cQ) (fun x : va_W => x) w sz) (va_A w sz)) 0 0 (va_A w sz) := by
  sorry
theorem q_X8_row (l : Launch) (dC : Nat → ClassId) (dI : Nat → Nat → Nat) (cB cI cJ cZ cP cQ : ClassId) (adK adV : Nat → Nat) (q0 : Option Nat) (h0 sz : Nat) (w : va_W) (p1 : Int32) (p2 : Int32) (p3 : Int32) (hI : IX cB cI cJ cZ cP cQ h0 w) : Met l yX8_row wsX8_row ({ frames := 2, cells := 0, slots := 0, locals := 46 } : Room) (sPc [.ref h0, .int p1, .int p2, .int p3] (dC, dI) (zT cB cI cJ cZ cP cQ) w sz zNW zAO adK adV q0) (va_Qi (fun (r : Int32) (x : va_W) => IX cB cI cJ cZ cP cQ h0 x ∧ True) (zB (dC, dI) (zT cB cI cJ cZ cP cQ) (fun x : va_W => x) w sz) (va_A w sz)) 0 0 (va_A w sz) := by
  sorry
theorem q_X9_row (l : Launch) (dC : Nat → ClassId) (dI : Nat → Nat → Nat) (cB cI cJ cZ cP cQ : ClassId) (adK adV : Nat → Nat) (q0 : Option Nat) (h0 sz : Nat) (w : va_W) (p1 : Int32) (p2 : Int32) (p3 : Int32) (hI : IM cB cI cJ cZ cP cQ h0 w) : Met l yX9_row wsX9_row ({ frames := 2, cells := 0, slots := 0, locals := 45 } : Room) (sPc [.ref h0, .int p1, .int p2, .int p3] (dC, dI) (zT cB cI cJ cZ cP cQ) w sz zNW zAO adK adV q0) (va_Qi (fun (r : Int32) (x : va_W) => IM cB cI cJ cZ cP cQ h0 x ∧ True) (zB (dC, dI) (zT cB cI cJ cZ cP cQ) (fun x : va_W => x) w sz) (va_A w sz)) 0 0 (va_A w sz) := by
  sorry
theorem q_X8_write (l : Launch) (dC : Nat → ClassId) (dI : Nat → Nat → Nat) (cB cI cJ cZ cP cQ : ClassId) (adK adV : Nat → Nat) (q0 : Option Nat) (h0 sz : Nat) (w : va_W) (p1 : Int32) (p2 : Int32) (p3 : Int64) (hI : IX cB cI cJ cZ cP cQ h0 w) : Met l yX8_write wsX8_write ({ frames := 2, cells := 0, slots := 0, locals := 42 } : Room) (sPc [.ref h0, .int p1, .int p2, .long p3] (dC, dI) (zT cB cI cJ cZ cP cQ) w sz zNW zAO adK adV q0) (va_Qi (fun (r : Int32) (x : va_W) => IX cB cI cJ cZ cP cQ h0 x ∧ True) (zB (dC, dI) (zT cB cI cJ cZ cP cQ) (fun x : va_W => x) w sz) (va_A w sz)) 0 0 (va_A w sz) := by
  sorry
theorem q_X9_write (l : Launch) (dC : Nat → ClassId) (dI : Nat → Nat → Nat) (cB cI cJ cZ cP cQ : ClassId) (adK adV : Nat → Nat) (q0 : Option Nat) (h0 sz : Nat) (w : va_W) (p1 : Int32) (p2 : Int32) (p3 : Int64) (hI : IM cB cI cJ cZ cP cQ h0 w) : Met l yX9_write wsX9_write ({ frames := 2, cells := 0, slots := 0, locals := 45 } : Room) (sPc [.ref h0, .int p1, .int p2, .long p3] (dC, dI) (zT cB cI cJ cZ cP cQ) w sz zNW zAO adK adV q0) (va_Qi (fun (r : Int32) (x : va_W) => IM cB cI cJ cZ cP cQ h0 x ∧ True) (zB (dC, dI) (zT cB cI cJ cZ cP cQ) (fun x : va_W => x) w sz) (va_A w sz)) 0 0 (va_A w sz) := by
  sorry
theorem q_X8_paste (l : Launch) (dC : Nat → ClassId) (dI : Nat → Nat → Nat) (cB cI cJ cZ cP cQ : ClassId) (adK adV : Nat → Nat) (q0 : Option Nat) (h0 sz : Nat) (w : va_W) (p1 : Int32) (p2 : Int32) (p3 : Int32) (p4 : Int32) (p5 : Int32) (hI : IX cB cI cJ cZ cP cQ h0 w) : Met l yX8_paste wsX8_paste ({ frames := 2, cells := 0, slots := 0, locals := 80 } : Room) (sPc [.ref h0, .int p1, .int p2, .int p3, .int p4, .int p5] (dC, dI) (zT cB cI cJ cZ cP cQ) w sz zNW zAO adK adV q0) (va_Qi (fun (r : Int32) (x : va_W) => IX cB cI cJ cZ cP cQ h0 x ∧ True) (zB (dC, dI) (zT cB cI cJ cZ cP cQ) (fun x : va_W => x) w sz) (va_A w sz)) 0 0 (va_A w sz) := by
  sorry
theorem q_X9_paste (l : Launch) (dC : Nat → ClassId) (dI : Nat → Nat → Nat) (cB cI cJ cZ cP cQ : ClassId) (adK adV : Nat → Nat) (q0 : Option Nat) (h0 sz : Nat) (w : va_W) (p1 : Int32) (p2 : Int32) (p3 : Int32) (p4 : Int32) (p5 : Int32) (hI : IM cB cI cJ cZ cP cQ h0 w) : Met l yX9_paste wsX9_paste ({ frames := 2, cells := 0, slots := 0, locals := 45 } : Room) (sPc [.ref h0, .int p1, .int p2, .int p3, .int p4, .int p5] (dC, dI) (zT cB cI cJ cZ cP cQ) w sz zNW zAO adK adV q0) (va_Qi (fun (r : Int32) (x : va_W) => IM cB cI cJ cZ cP cQ h0 x ∧ True) (zB (dC, dI) (zT cB cI cJ cZ cP cQ) (fun x : va_W => x) w sz) (va_A w sz)) 0 0 (va_A w sz) := by
  sorry
theorem q_X8_keep (l : Launch) (dC : Nat → ClassId) (dI : Nat → Nat → Nat) (cB cI cJ cZ cP cQ : ClassId) (adK adV : Nat → Nat) (q0 : Option Nat) (h0 sz : Nat) (w : va_W) (p1 : Int32) (hI : IX cB cI cJ cZ cP cQ h0 w) : Met l yX8_keep wsX8_keep ({ frames := 3, cells := 18, slots := 1522, locals := 101 } : Room) (sPc [.ref h0, .int p1] (dC, dI) (zT cB cI cJ cZ cP cQ) w sz zNW zAO adK adV q0) (va_Qi (fun (r : Int32) (x : va_W) => IX cB cI cJ cZ cP cQ h0 x ∧ ((0 ≤ p1.toInt ∧ p1.toInt ≤ 2 ∧ r.toInt = 0) ∨ ((p1.toInt < 0 ∨ 2 < p1.toInt) ∧ r.toInt = -2))) (zB (dC, dI) (zT cB cI cJ cZ cP cQ) (fun x : va_W => x) w sz) (va_A w sz)) 18 1522 (va_A w sz) := by
  sorry
theorem q_X8_back (l : Launch) (dC : Nat → ClassId) (dI : Nat → Nat → Nat) (cB cI cJ cZ cP cQ : ClassId) (adK adV : Nat → Nat) (q0 : Option Nat) (h0 sz : Nat) (w : va_W) (p1 : Int32) (hI : IX cB cI cJ cZ cP cQ h0 w) : Met l yX8_back wsX8_back ({ frames := 2, cells := 0, slots := 0, locals := 101 } : Room) (sPc [.ref h0, .int p1] (dC, dI) (zT cB cI cJ cZ cP cQ) w sz zNW zAO adK adV q0) (va_Qi (fun (r : Int32) (x : va_W) => IX cB cI cJ cZ cP cQ h0 x ∧ True) (zB (dC, dI) (zT cB cI cJ cZ cP cQ) (fun x : va_W => x) w sz) (va_A w sz)) 0 0 (va_A w sz) := by
  sorry
theorem c_X8_init_8 (l : Launch) (dC : Nat → ClassId) (dI : Nat → Nat → Nat) (cB cI cJ cZ cP cQ : ClassId) (h0 : Nat) (sz : Nat) : Met l yX8_init wsX8_init ({ frames := 2, cells := 52, slots := 4138, locals := 44 } : Room) (zPc [.ref h0] (dC, dI) (zT cB cI cJ cZ cP cQ) [(h0, .inr (8, [.null, .null, .null, .null, .null, .null, .null, .null, .null, .null]))] sz [(RX8, 9, yX7_init, "MonthPush"), (RX8, 28, yX5_init, "MonthPush"), (RX8, 38, yX0_init, "MonthPush"), (RX8, 45, yX6_init, "MonthPush"), (RX8, 52, yX1_init, "MonthPush"), (RX8, 69, yX4_init, "MonthPush")] [RX2, RX4]) (va_Qv (fun _ => True) (zB (dC, dI) (zT cB cI cJ cZ cP cQ) (fun u : (Nat → Nat) => [(h0, .inr (8, [.ref (u 0), .ref (u 2), .ref (u 12), .ref (u 22), .ref (u 29), .ref (u 36), .ref (u 37), .ref (u 38), .ref (u 42), .ref (u 43)])), (u 0, .inr (7, [.ref (u 1), .int 0, .int 0, .int (-1), .int 0, .int 0, .int 0, .int 0])), (u 1, .inl (cB, 600, .inl (fun _ => 0))), (u 2, .inr (3, [.int 0, .int 0, .int 0, .int 0, .int 0, .int 0, .int 0, .ref (u 3), .ref (u 4), .ref (u 5), .ref (u 6), .ref (u 7), .ref (u 8), .ref (u 9), .ref (u 10), .ref (u 11)])), (u 3, .inl (cI, 6, .inl (fun _ => 0))), (u 4, .inl (cI, 6, .inl (fun _ => 0))), (u 5, .inl (cI, 8, .inl (fun _ => 0))), (u 6, .inl (cI, 8, .inl (fun _ => 0))), (u 7, .inl (cI, 8, .inl (fun _ => 0))), (u 8, .inl (cI, 8, .inl (fun _ => 0))), (u 9, .inl (cI, 13, .inl (fun _ => (-1)))), (u 10, .inl (cI, 120, .inl (fun _ => 0))), (u 11, .inl (cI, 120, .inl (fun _ => 0))), (u 12, .inr (3, [.int 0, .int 0, .int 0, .int 0, .int 0, .int 0, .int 0, .ref (u 13), .ref (u 14), .ref (u 15), .ref (u 16), .ref (u 17), .ref (u 18), .ref (u 19), .ref (u 20), .ref (u 21)])), (u 13, .inl (cI, 6, .inl (fun _ => 0))), (u 14, .inl (cI, 6, .inl (fun _ => 0))), (u 15, .inl (cI, 8, .inl (fun _ => 0))), (u 16, .inl (cI, 8, .inl (fun _ => 0))), (u 17, .inl (cI, 8, .inl (fun _ => 0))), (u 18, .inl (cI, 8, .inl (fun _ => 0))), (u 19, .inl (cI, 13, .inl (fun _ => (-1)))), (u 20, .inl (cI, 120, .inl (fun _ => 0))), (u 21, .inl (cI, 120, .inl (fun _ => 0))), (u 22, .inr (5, [.int 0, .ref (u 23), .ref (u 24), .ref (u 25), .ref (u 26), .ref (u 27), .ref (u 28)])), (u 23, .inl (cI, 200, .inl (fun _ => 0))), (u 24, .inl (cI, 200, .inl (fun _ => 0))), (u 25, .inl (cI, 200, .inl (fun _ => 0))), (u 26, .inl (cI, 200, .inl (fun _ => 0))), (u 27, .inl (cI, 200, .inl (fun _ => 0))), (u 28, .inl (cI, 200, .inl (fun _ => 0))), (u 29, .inr (5, [.int 0, .ref (u 30), .ref (u 31), .ref (u 32), .ref (u 33), .ref (u 34), .ref (u 35)])), (u 30, .inl (cI, 200, .inl (fun _ => 0))), (u 31, .inl (cI, 200, .inl (fun _ => 0))), (u 32, .inl (cI, 200, .inl (fun _ => 0))), (u 33, .inl (cI, 200, .inl (fun _ => 0))), (u 34, .inl (cI, 200, .inl (fun _ => 0))), (u 35, .inl (cI, 200, .inl (fun _ => 0))), (u 36, .inr (0, [.long 0])), (u 37, .inr (6, [.long 0, .long 0, .long 0, .long 0, .long 0, .long 0, .long 0, .long 0, .long 0, .long 0, .long 0])), (u 38, .inr (1, [.ref (u 39), .ref (u 40), .ref (u 41)])), (u 39, .inl (cJ, 72, .inr (.inl (fun _ => 0)))), (u 40, .inl (cJ, 72, .inr (.inl (fun _ => 0)))), (u 41, .inl (cJ, 72, .inr (.inl (fun _ => 0)))), (u 42, .inl (cP, 3, .inr (.inr (.inr (.inr (fun _ => none)))))), (u 43, .inl (cQ, 4, .inr (.inr (.inr (.inr (va_up (va_up (va_up (va_up (fun _ => none) (Int32.toNatClampNeg 0) (some (u 44))) (Int32.toNatClampNeg 1) (some (u 46))) (Int32.toNatClampNeg 2) (some (u 48))) (Int32.toNatClampNeg 3) (some (u 50)))))))), (u 44, .inr (4, [.int (-1), .int 0, .ref (u 45)])), (u 45, .inl (cJ, 60, .inr (.inl (fun _ => 0)))), (u 46, .inr (4, [.int (-1), .int 0, .ref (u 47)])), (u 47, .inl (cJ, 60, .inr (.inl (fun _ => 0)))), (u 48, .inr (4, [.int (-1), .int 0, .ref (u 49)])), (u 49, .inl (cJ, 60, .inr (.inl (fun _ => 0)))), (u 50, .inr (4, [.int (-1), .int 0, .ref (u 51)])), (u 51, .inl (cJ, 60, .inr (.inl (fun _ => 0))))]) [(h0, .inr (8, [.null, .null, .null, .null, .null, .null, .null, .null, .null, .null]))] sz) (va_A [(h0, .inr (8, [.null, .null, .null, .null, .null, .null, .null, .null, .null, .null]))] sz)) 52 4138 (va_A [(h0, .inr (8, [.null, .null, .null, .null, .null, .null, .null, .null, .null, .null]))] sz) := by
  sorry
theorem c_X9_init_9 (l : Launch) (dC : Nat → ClassId) (dI : Nat → Nat → Nat) (cB cI cJ cZ cP cQ : ClassId) (h0 : Nat) (sz : Nat) : Met l yX9_init wsX9_init ({ frames := 1, cells := 36, slots := 9831, locals := 24 } : Room) (zPc [.ref h0] (dC, dI) (zT cB cI cJ cZ cP cQ) [(h0, .inr (9, [.int 0, .null, .null, .null, .null, .null, .int 0, .int 0, .int 0, .int 0, .int 0, .long 0, .int 0, .int 0, .int 0, .int 0, .null, .null, .null, .null, .null, .null, .null, .null, .null, .null, .null, .null, .null, .null, .null, .null, .null, .null, .null, .null, .null, .null, .null, .null, .null, .null, .long 0, .int 0, .long 0, .long 0, .long 0, .long 0, .long 0, .long 0, .long 0, .long 0, .null, .int 0, .null, .null, .null, .long 0, .long 0, .null]))] sz [] []) (va_Qv (fun _ => True) (zB (dC, dI) (zT cB cI cJ cZ cP cQ) (fun u : (Nat → Nat) => [(h0, .inr (9, [.int 0, .ref (u 0), .ref (u 1), .ref (u 2), .ref (u 3), .ref (u 4), .int 0, .int 0, .int 0, .int 0, .int 0, .long 0, .int 0, .int 0, .int 0, .int (-1), .ref (u 5), .ref (u 6), .ref (u 7), .ref (u 8), .ref (u 9), .ref (u 10), .ref (u 11), .ref (u 12), .ref (u 13), .ref (u 14), .ref (u 15), .ref (u 16), .ref (u 17), .ref (u 18), .ref (u 19), .ref (u 20), .ref (u 21), .ref (u 22), .ref (u 23), .ref (u 24), .ref (u 25), .ref (u 26), .ref (u 27), .ref (u 28), .ref (u 29), .ref (u 30), .long 0, .int 0, .long 0, .long 0, .long 0, .long 0, .long 0, .long 0, .long 0, .long 0, .ref (u 31), .int 0, .ref (u 32), .ref (u 33), .ref (u 34), .long 0, .long 0, .ref (u 35)])), (u 0, .inl (cI, 4, .inl (fun _ => (-1)))), (u 1, .inl (cI, 4, .inl (fun _ => 0))), (u 2, .inl (cJ, 240, .inr (.inl (fun _ => 0)))), (u 3, .inl (cJ, 60, .inr (.inl (fun _ => 0)))), (u 4, .inl (cB, 600, .inl (fun _ => 0))), (u 5, .inl (cI, 5, .inl (fun _ => 0))), (u 6, .inl (cI, 5, .inl (fun _ => 0))), (u 7, .inl (cI, 30, .inl (fun _ => 0))), (u 8, .inl (cI, 30, .inl (fun _ => 0))), (u 9, .inl (cI, 5, .inl (fun _ => 0))), (u 10, .inl (cI, 40, .inl (fun _ => 0))), (u 11, .inl (cI, 40, .inl (fun _ => 0))), (u 12, .inl (cI, 40, .inl (fun _ => 0))), (u 13, .inl (cI, 40, .inl (fun _ => 0))), (u 14, .inl (cZ, 60, .inl (fun _ => 0))), (u 15, .inl (cI, 60, .inl (fun _ => 0))), (u 16, .inl (cZ, 5, .inl (fun _ => 0))), (u 17, .inl (cZ, 5, .inl (fun _ => 0))), (u 18, .inl (cI, 5, .inl (fun _ => 0))), (u 19, .inl (cI, 5, .inl (fun _ => 0))), (u 20, .inl (cI, 5, .inl (fun _ => 0))), (u 21, .inl (cI, 1600, .inl (fun _ => 0))), (u 22, .inl (cZ, 3, .inl (fun _ => 0))), (u 23, .inl (cJ, 320, .inr (.inl (fun _ => 0)))), (u 24, .inl (cI, 5, .inl (fun _ => 0))), (u 25, .inl (cI, 1000, .inl (fun _ => 0))), (u 26, .inl (cI, 1000, .inl (fun _ => 0))), (u 27, .inl (cI, 1000, .inl (fun _ => 0))), (u 28, .inl (cI, 1000, .inl (fun _ => 0))), (u 29, .inl (cI, 1000, .inl (fun _ => 0))), (u 30, .inl (cI, 1000, .inl (fun _ => 0))), (u 31, .inl (cZ, 200, .inl (fun _ => 0))), (u 32, .inl (cJ, 72, .inr (.inl (fun _ => 0)))), (u 33, .inl (cJ, 72, .inr (.inl (fun _ => 0)))), (u 34, .inl (cJ, 72, .inr (.inl (fun _ => 0)))), (u 35, .inl (cZ, 199, .inl (fun _ => 0)))]) [(h0, .inr (9, [.int 0, .null, .null, .null, .null, .null, .int 0, .int 0, .int 0, .int 0, .int 0, .long 0, .int 0, .int 0, .int 0, .int 0, .null, .null, .null, .null, .null, .null, .null, .null, .null, .null, .null, .null, .null, .null, .null, .null, .null, .null, .null, .null, .null, .null, .null, .null, .null, .null, .long 0, .int 0, .long 0, .long 0, .long 0, .long 0, .long 0, .long 0, .long 0, .long 0, .null, .int 0, .null, .null, .null, .long 0, .long 0, .null]))] sz) (va_A [(h0, .inr (9, [.int 0, .null, .null, .null, .null, .null, .int 0, .int 0, .int 0, .int 0, .int 0, .long 0, .int 0, .int 0, .int 0, .int 0, .null, .null, .null, .null, .null, .null, .null, .null, .null, .null, .null, .null, .null, .null, .null, .null, .null, .null, .null, .null, .null, .null, .null, .null, .null, .null, .long 0, .int 0, .long 0, .long 0, .long 0, .long 0, .long 0, .long 0, .long 0, .long 0, .null, .int 0, .null, .null, .null, .long 0, .long 0, .null]))] sz)) 36 9831 (va_A [(h0, .inr (9, [.int 0, .null, .null, .null, .null, .null, .int 0, .int 0, .int 0, .int 0, .int 0, .long 0, .int 0, .int 0, .int 0, .int 0, .null, .null, .null, .null, .null, .null, .null, .null, .null, .null, .null, .null, .null, .null, .null, .null, .null, .null, .null, .null, .null, .null, .null, .null, .null, .null, .long 0, .int 0, .long 0, .long 0, .long 0, .long 0, .long 0, .long 0, .long 0, .long 0, .null, .int 0, .null, .null, .null, .long 0, .long 0, .null]))] sz) := by
  sorry
theorem gT_X8_init : GoodIn lw_tbl wsX8_init := by
  sorry
theorem gT_X9_init : GoodIn lw_tbl wsX9_init := by
  sorry
theorem gT_X8_feed : GoodIn lw_tbl (wsV RL 13 RX8 yX8_feed wsX8_feed) := by
  sorry
theorem gT_X9_feed : GoodIn lw_tbl (wsV RL 17 RX9 yX9_feed wsX9_feed) := by
  sorry
theorem gT_X8_end : GoodIn lw_tbl (wsV RL 18 RX8 yX8_end wsX8_end) := by
  sorry
theorem gT_X9_end : GoodIn lw_tbl (wsV RL 22 RX9 yX9_end wsX9_end) := by
  sorry
theorem gT_X8_land : GoodIn lw_tbl (wsV RL 23 RX8 yX8_land wsX8_land) := by
  sorry
theorem gT_X9_land : GoodIn lw_tbl (wsV RL 27 RX9 yX9_land wsX9_land) := by
  sorry
theorem gT_X8_fault : GoodIn lw_tbl (wsV RL 28 RX8 yX8_fault wsX8_fault) := by
  sorry
theorem gT_X9_fault : GoodIn lw_tbl (wsV RL 31 RX9 yX9_fault wsX9_fault) := by
  sorry
theorem gT_X8_forced : GoodIn lw_tbl (wsV RL 32 RX8 yX8_forced wsX8_forced) := by
  sorry
theorem gT_X9_forced : GoodIn lw_tbl (wsV RL 36 RX9 yX9_forced wsX9_forced) := by
  sorry
theorem gT_X8_old : GoodIn lw_tbl (wsV RL 37 RX8 yX8_old wsX8_old) := by
  sorry
theorem gT_X9_old : GoodIn lw_tbl (wsV RL 40 RX9 yX9_old wsX9_old) := by
  sorry
theorem gT_X8_wage : GoodIn lw_tbl (wsV RL 41 RX8 yX8_wage wsX8_wage) := by
  sorry
theorem gT_X9_wage : GoodIn lw_tbl (wsV RL 45 RX9 yX9_wage wsX9_wage) := by
  sorry
theorem gT_X8_draw : GoodIn lw_tbl (wsV RL 46 RX8 yX8_draw wsX8_draw) := by
  sorry
theorem gT_X9_draw : GoodIn lw_tbl (wsV RL 49 RX9 yX9_draw wsX9_draw) := by
  sorry
theorem gT_X8_sheet : GoodIn lw_tbl (wsV RL 50 RX8 yX8_sheet wsX8_sheet) := by
  sorry
theorem gT_X9_sheet : GoodIn lw_tbl (wsV RL 53 RX9 yX9_sheet wsX9_sheet) := by
  sorry
theorem gT_X8_told : GoodIn lw_tbl (wsV RL 54 RX8 yX8_told wsX8_told) := by
  sorry
theorem gT_X9_told : GoodIn lw_tbl (wsV RL 57 RX9 yX9_told wsX9_told) := by
  sorry
theorem gT_X8_would : GoodIn lw_tbl (wsV RL 58 RX8 yX8_would wsX8_would) := by
  sorry
theorem gT_X9_would : GoodIn lw_tbl (wsV RL 61 RX9 yX9_would wsX9_would) := by
  sorry
theorem gT_X8_worth : GoodIn lw_tbl (wsV RL 62 RX8 yX8_worth wsX8_worth) := by
  sorry
theorem gT_X9_worth : GoodIn lw_tbl (wsV RL 65 RX9 yX9_worth wsX9_worth) := by
  sorry
theorem gT_X8_month : GoodIn lw_tbl (wsV RL 66 RX8 yX8_month wsX8_month) := by
  sorry
theorem gT_X9_month : GoodIn lw_tbl (wsV RL 69 RX9 yX9_month wsX9_month) := by
  sorry
theorem gT_X8_plain : GoodIn lw_tbl (wsV RL 70 RX8 yX8_plain wsX8_plain) := by
  sorry
theorem gT_X9_plain : GoodIn lw_tbl (wsV RL 74 RX9 yX9_plain wsX9_plain) := by
  sorry
theorem gT_X8_by : GoodIn lw_tbl (wsV RL 75 RX8 yX8_by wsX8_by) := by
  sorry
theorem gT_X9_by : GoodIn lw_tbl (wsV RL 79 RX9 yX9_by wsX9_by) := by
  sorry
theorem gT_X8_many : GoodIn lw_tbl (wsV RL 80 RX8 yX8_many wsX8_many) := by
  sorry
theorem gT_X9_many : GoodIn lw_tbl (wsV RL 83 RX9 yX9_many wsX9_many) := by
  sorry
theorem gT_X8_groups : GoodIn lw_tbl (wsV RL 84 RX8 yX8_groups wsX8_groups) := by
  sorry
theorem gT_X9_groups : GoodIn lw_tbl (wsV RL 87 RX9 yX9_groups wsX9_groups) := by
  sorry
theorem gT_X8_moves : GoodIn lw_tbl (wsV RL 88 RX8 yX8_moves wsX8_moves) := by
  sorry
theorem gT_X9_moves : GoodIn lw_tbl (wsV RL 91 RX9 yX9_moves wsX9_moves) := by
  sorry
theorem gT_X8_strong : GoodIn lw_tbl (wsV RL 92 RX8 yX8_strong wsX8_strong) := by
  sorry
theorem gT_X9_strong : GoodIn lw_tbl (wsV RL 95 RX9 yX9_strong wsX9_strong) := by
  sorry
theorem gT_X8_strongest : GoodIn lw_tbl (wsV RL 96 RX8 yX8_strongest wsX8_strongest) := by
  sorry
theorem gT_X9_strongest : GoodIn lw_tbl (wsV RL 99 RX9 yX9_strongest wsX9_strongest) := by
  sorry
theorem gT_X8_span : GoodIn lw_tbl (wsV RL 100 RX8 yX8_span wsX8_span) := by
  sorry
theorem gT_X9_span : GoodIn lw_tbl (wsV RL 104 RX9 yX9_span wsX9_span) := by
  sorry
theorem gT_X8_usual : GoodIn lw_tbl (wsV RL 105 RX8 yX8_usual wsX8_usual) := by
  sorry
theorem gT_X9_usual : GoodIn lw_tbl (wsV RL 108 RX9 yX9_usual wsX9_usual) := by
  sorry
theorem gT_X8_kept : GoodIn lw_tbl (wsV RL 109 RX8 yX8_kept wsX8_kept) := by
  sorry
theorem gT_X9_kept : GoodIn lw_tbl (wsV RL 112 RX9 yX9_kept wsX9_kept) := by
  sorry
theorem gT_X8_hats : GoodIn lw_tbl (wsV RL 113 RX8 yX8_hats wsX8_hats) := by
  sorry
theorem gT_X9_hats : GoodIn lw_tbl (wsV RL 116 RX9 yX9_hats wsX9_hats) := by
  sorry
theorem gT_X8_leak : GoodIn lw_tbl (wsV RL 117 RX8 yX8_leak wsX8_leak) := by
  sorry
theorem gT_X9_leak : GoodIn lw_tbl (wsV RL 120 RX9 yX9_leak wsX9_leak) := by
  sorry
theorem gT_X8_leaked : GoodIn lw_tbl (wsV RL 121 RX8 yX8_leaked wsX8_leaked) := by
  sorry
theorem gT_X9_leaked : GoodIn lw_tbl (wsV RL 125 RX9 yX9_leaked wsX9_leaked) := by
  sorry
theorem gT_X8_homes : GoodIn lw_tbl (wsV RL 126 RX8 yX8_homes wsX8_homes) := by
  sorry
theorem gT_X9_homes : GoodIn lw_tbl (wsV RL 129 RX9 yX9_homes wsX9_homes) := by
  sorry
theorem gT_X8_whom : GoodIn lw_tbl (wsV RL 130 RX8 yX8_whom wsX8_whom) := by
  sorry
theorem gT_X9_whom : GoodIn lw_tbl (wsV RL 133 RX9 yX9_whom wsX9_whom) := by
  sorry
theorem gT_X8_truth : GoodIn lw_tbl (wsV RL 134 RX8 yX8_truth wsX8_truth) := by
  sorry
theorem gT_X9_truth : GoodIn lw_tbl (wsV RL 138 RX9 yX9_truth wsX9_truth) := by
  sorry
theorem gT_X8_leans : GoodIn lw_tbl (wsV RL 139 RX8 yX8_leans wsX8_leans) := by
  sorry
theorem gT_X9_leans : GoodIn lw_tbl (wsV RL 142 RX9 yX9_leans wsX9_leans) := by
  sorry
theorem gT_X8_least : GoodIn lw_tbl (wsV RL 143 RX8 yX8_least wsX8_least) := by
  sorry
theorem gT_X9_least : GoodIn lw_tbl (wsV RL 146 RX9 yX9_least wsX9_least) := by
  sorry
theorem gT_X8_beside : GoodIn lw_tbl (wsV RL 147 RX8 yX8_beside wsX8_beside) := by
  sorry
theorem gT_X9_beside : GoodIn lw_tbl (wsV RL 150 RX9 yX9_beside wsX9_beside) := by
  sorry
theorem gT_X8_needs : GoodIn lw_tbl (wsV RL 151 RX8 yX8_needs wsX8_needs) := by
  sorry
theorem gT_X9_needs : GoodIn lw_tbl (wsV RL 154 RX9 yX9_needs wsX9_needs) := by
  sorry
theorem gT_X8_worlds : GoodIn lw_tbl (wsV RL 155 RX8 yX8_worlds wsX8_worlds) := by
  sorry
theorem gT_X9_worlds : GoodIn lw_tbl (wsV RL 158 RX9 yX9_worlds wsX9_worlds) := by
  sorry
theorem gT_X8_only : GoodIn lw_tbl (wsV RL 159 RX8 yX8_only wsX8_only) := by
  sorry
theorem gT_X9_only : GoodIn lw_tbl (wsV RL 162 RX9 yX9_only wsX9_only) := by
  sorry
theorem gT_X8_judge : GoodIn lw_tbl (wsV RL 163 RX8 yX8_judge wsX8_judge) := by
  sorry
theorem gT_X9_judge : GoodIn lw_tbl (wsV RL 166 RX9 yX9_judge wsX9_judge) := by
  sorry
theorem gT_X8_sheets : GoodIn lw_tbl (wsV RL 167 RX8 yX8_sheets wsX8_sheets) := by
  sorry
theorem gT_X9_sheets : GoodIn lw_tbl (wsV RL 170 RX9 yX9_sheets wsX9_sheets) := by
  sorry
theorem gT_X8_count : GoodIn lw_tbl (wsV RL 171 RX8 yX8_count wsX8_count) := by
  sorry
theorem gT_X9_count : GoodIn lw_tbl (wsV RL 174 RX9 yX9_count wsX9_count) := by
  sorry
theorem gT_X8_keep : GoodIn lw_tbl (wsV RL 175 RX8 yX8_keep wsX8_keep) := by
  sorry
theorem gT_X9_keep : GoodIn lw_tbl (wsV RL 178 RX9 yX9_keep wsX9_keep) := by
  sorry
theorem gT_X8_back : GoodIn lw_tbl (wsV RL 179 RX8 yX8_back wsX8_back) := by
  sorry
theorem gT_X9_back : GoodIn lw_tbl (wsV RL 182 RX9 yX9_back wsX9_back) := by
  sorry
theorem gT_X8_row : GoodIn lw_tbl (wsV RL 183 RX8 yX8_row wsX8_row) := by
  sorry
theorem gT_X9_row : GoodIn lw_tbl (wsV RL 186 RX9 yX9_row wsX9_row) := by
  sorry
theorem gT_X8_write : GoodIn lw_tbl (wsV RL 189 RX8 yX8_write wsX8_write) := by
  sorry
theorem gT_X9_write : GoodIn lw_tbl (wsV RL 193 RX9 yX9_write wsX9_write) := by
  sorry
theorem gT_X8_paste : GoodIn lw_tbl (wsV RL 194 RX8 yX8_paste wsX8_paste) := by
  sorry
theorem gT_X9_paste : GoodIn lw_tbl (wsV RL 197 RX9 yX9_paste wsX9_paste) := by
  sorry
theorem inlX0 : ∀ w ∈ wsX00, w ∈ wsL_law := by
  sorry
theorem inX0 : ∀ w ∈ wsX00, w ∈ lw_tbl := by
  sorry
theorem inlX1 : ∀ w ∈ wsX10, w ∈ wsL_law := by
  sorry
theorem inX1 : ∀ w ∈ wsX10, w ∈ lw_tbl := by
  sorry
theorem inlX2 : ∀ w ∈ wsX20, w ∈ wsL_law := by
  sorry
theorem inX2 : ∀ w ∈ wsX20, w ∈ lw_tbl := by
  sorry
theorem inlX3 : ∀ w ∈ wsX30, w ∈ wsL_law := by
  sorry
theorem inX3 : ∀ w ∈ wsX30, w ∈ lw_tbl := by
  sorry
theorem inlX4 : ∀ w ∈ wsX40, w ∈ wsL_law := by
  sorry
theorem inX4 : ∀ w ∈ wsX40, w ∈ lw_tbl := by
  sorry
theorem inlX5 : ∀ w ∈ wsX50, w ∈ wsL_law := by
  sorry
theorem inX5 : ∀ w ∈ wsX50, w ∈ lw_tbl := by
  sorry
theorem inlX6 : ∀ w ∈ wsX60, w ∈ wsL_law := by
  sorry
theorem inX6 : ∀ w ∈ wsX60, w ∈ lw_tbl := by
  sorry
theorem inlX7 : ∀ w ∈ wsX70, w ∈ wsL_law := by
  sorry
theorem inX7 : ∀ w ∈ wsX70, w ∈ lw_tbl := by
  sorry
theorem inlX8 : ∀ w ∈ wsX80, w ∈ wsL_law := by
  sorry
theorem inX8 : ∀ w ∈ wsX80, w ∈ lw_tbl := by
  sorry
theorem inlX9 : ∀ w ∈ wsX90, w ∈ wsL_law := by
  sorry
theorem inX9 : ∀ w ∈ wsX90, w ∈ lw_tbl := by
  sorry
theorem dL_law_0 : decode cL_law 0 = .ok (.new 7, 3) := by
  sorry
theorem dL_law_3 : decode cL_law 3 = .ok (.dup, 1) := by
  sorry
theorem dL_law_4 : decode cL_law 4 = .ok (.invokespecial 9, 3) := by
  sorry
theorem dL_law_7 : decode cL_law 7 = .ok (.astore_n 1, 1) := by
  sorry
theorem dL_law_8 : decode cL_law 8 = .ok (.new 10, 3) := by
  sorry
theorem dL_law_11 : decode cL_law 11 = .ok (.dup, 1) := by
  sorry
theorem dL_law_12 : decode cL_law 12 = .ok (.invokespecial 12, 3) := by
  sorry
theorem dL_law_15 : decode cL_law 15 = .ok (.astore_n 2, 1) := by
  sorry
theorem dL_law_16 : decode cL_law 16 = .ok (.iconst 0, 1) := by
  sorry
theorem dL_law_17 : decode cL_law 17 = .ok (.istore_n 3, 1) := by
  sorry
theorem dL_law_18 : decode cL_law 18 = .ok (.iload_n 3, 1) := by
  sorry
theorem dL_law_19 : decode cL_law 19 = .ok (.aload_n 0, 1) := by
  sorry
theorem dL_law_20 : decode cL_law 20 = .ok (.arraylength, 1) := by
  sorry
theorem dL_law_21 : decode cL_law 21 = .ok (.bipush 6, 2) := by
  sorry
theorem dL_law_23 : decode cL_law 23 = .ok (.isub, 1) := by
  sorry
theorem dL_law_24 : decode cL_law 24 = .ok (.if_icmp .gt 1597, 3) := by
  sorry
theorem dL_law_27 : decode cL_law 27 = .ok (.aload_n 0, 1) := by
  sorry
theorem dL_law_28 : decode cL_law 28 = .ok (.iload_n 3, 1) := by
  sorry
theorem dL_law_29 : decode cL_law 29 = .ok (.iaload, 1) := by
  sorry
theorem dL_law_30 : decode cL_law 30 = .ok (.bipush 63, 2) := by
  sorry
theorem dL_law_32 : decode cL_law 32 = .ok (.iand, 1) := by
  sorry
theorem dL_law_33 : decode cL_law 33 = .ok (.tableswitch 1582 0 42 #[187, 250, 273, 286, 309, 342, 375, 428, 461, 514, 547, 580, 603, 636, 649, 672, 685, 698, 721, 744, 757, 800, 843, 886, 939, 962, 995, 1018, 1041, 1080, 1113, 1136, 1169, 1202, 1265, 1288, 1311, 1334, 1357, 1380, 1403, 1446, 1519], 187) := by
  sorry
theorem dL_law_220 : decode cL_law 220 = .ok (.aload_n 1, 1) := by
  sorry
theorem dL_law_221 : decode cL_law 221 = .ok (.aload_n 0, 1) := by
  sorry
theorem dL_law_222 : decode cL_law 222 = .ok (.iload_n 3, 1) := by
  sorry
theorem dL_law_223 : decode cL_law 223 = .ok (.iconst 1, 1) := by
  sorry
theorem dL_law_224 : decode cL_law 224 = .ok (.iadd, 1) := by
  sorry
theorem dL_law_225 : decode cL_law 225 = .ok (.iaload, 1) := by
  sorry
theorem dL_law_226 : decode cL_law 226 = .ok (.aload_n 0, 1) := by
  sorry
theorem dL_law_227 : decode cL_law 227 = .ok (.iload_n 3, 1) := by
  sorry
theorem dL_law_228 : decode cL_law 228 = .ok (.iconst 2, 1) := by
  sorry
theorem dL_law_229 : decode cL_law 229 = .ok (.iadd, 1) := by
  sorry
theorem dL_law_230 : decode cL_law 230 = .ok (.iaload, 1) := by
  sorry
theorem dL_law_231 : decode cL_law 231 = .ok (.aload_n 0, 1) := by
  sorry
theorem dL_law_232 : decode cL_law 232 = .ok (.iload_n 3, 1) := by
  sorry
theorem dL_law_233 : decode cL_law 233 = .ok (.iconst 3, 1) := by
  sorry
theorem dL_law_234 : decode cL_law 234 = .ok (.iadd, 1) := by
  sorry
theorem dL_law_235 : decode cL_law 235 = .ok (.iaload, 1) := by
  sorry
theorem dL_law_236 : decode cL_law 236 = .ok (.aload_n 0, 1) := by
  sorry
theorem dL_law_237 : decode cL_law 237 = .ok (.iload_n 3, 1) := by
  sorry
theorem dL_law_238 : decode cL_law 238 = .ok (.iconst 4, 1) := by
  sorry
theorem dL_law_239 : decode cL_law 239 = .ok (.iadd, 1) := by
  sorry
theorem dL_law_240 : decode cL_law 240 = .ok (.iaload, 1) := by
  sorry
theorem dL_law_241 : decode cL_law 241 = .ok (.aload_n 0, 1) := by
  sorry
theorem dL_law_242 : decode cL_law 242 = .ok (.iload_n 3, 1) := by
  sorry
theorem dL_law_243 : decode cL_law 243 = .ok (.iconst 5, 1) := by
  sorry
theorem dL_law_244 : decode cL_law 244 = .ok (.iadd, 1) := by
  sorry
theorem dL_law_245 : decode cL_law 245 = .ok (.iaload, 1) := by
  sorry
theorem dL_law_246 : decode cL_law 246 = .ok (.invokevirtual 13, 3) := by
  sorry
theorem dL_law_249 : decode cL_law 249 = .ok (.pop, 1) := by
  sorry
theorem dL_law_250 : decode cL_law 250 = .ok (.aload_n 2, 1) := by
  sorry
theorem dL_law_251 : decode cL_law 251 = .ok (.aload_n 0, 1) := by
  sorry
theorem dL_law_252 : decode cL_law 252 = .ok (.iload_n 3, 1) := by
  sorry
theorem dL_law_253 : decode cL_law 253 = .ok (.iconst 1, 1) := by
  sorry
theorem dL_law_254 : decode cL_law 254 = .ok (.iadd, 1) := by
  sorry
theorem dL_law_255 : decode cL_law 255 = .ok (.iaload, 1) := by
  sorry
theorem dL_law_256 : decode cL_law 256 = .ok (.aload_n 0, 1) := by
  sorry
theorem dL_law_257 : decode cL_law 257 = .ok (.iload_n 3, 1) := by
  sorry
theorem dL_law_258 : decode cL_law 258 = .ok (.iconst 2, 1) := by
  sorry
theorem dL_law_259 : decode cL_law 259 = .ok (.iadd, 1) := by
  sorry
theorem dL_law_260 : decode cL_law 260 = .ok (.iaload, 1) := by
  sorry
theorem dL_law_261 : decode cL_law 261 = .ok (.aload_n 0, 1) := by
  sorry
theorem dL_law_262 : decode cL_law 262 = .ok (.iload_n 3, 1) := by
  sorry
theorem dL_law_263 : decode cL_law 263 = .ok (.iconst 3, 1) := by
  sorry
theorem dL_law_264 : decode cL_law 264 = .ok (.iadd, 1) := by
  sorry
theorem dL_law_265 : decode cL_law 265 = .ok (.iaload, 1) := by
  sorry
theorem dL_law_266 : decode cL_law 266 = .ok (.aload_n 0, 1) := by
  sorry
theorem dL_law_267 : decode cL_law 267 = .ok (.iload_n 3, 1) := by
  sorry
theorem dL_law_268 : decode cL_law 268 = .ok (.iconst 4, 1) := by
  sorry
theorem dL_law_269 : decode cL_law 269 = .ok (.iadd, 1) := by
  sorry
theorem dL_law_270 : decode cL_law 270 = .ok (.iaload, 1) := by
  sorry
theorem dL_law_271 : decode cL_law 271 = .ok (.aload_n 0, 1) := by
  sorry
theorem dL_law_272 : decode cL_law 272 = .ok (.iload_n 3, 1) := by
  sorry
theorem dL_law_273 : decode cL_law 273 = .ok (.iconst 5, 1) := by
  sorry
theorem dL_law_274 : decode cL_law 274 = .ok (.iadd, 1) := by
  sorry
theorem dL_law_275 : decode cL_law 275 = .ok (.iaload, 1) := by
  sorry
theorem dL_law_276 : decode cL_law 276 = .ok (.invokevirtual 17, 3) := by
  sorry
theorem dL_law_279 : decode cL_law 279 = .ok (.pop, 1) := by
  sorry
theorem dL_law_280 : decode cL_law 280 = .ok (.goto 1335, 3) := by
  sorry
theorem dL_law_283 : decode cL_law 283 = .ok (.aload_n 1, 1) := by
  sorry
theorem dL_law_284 : decode cL_law 284 = .ok (.aload_n 0, 1) := by
  sorry
theorem dL_law_285 : decode cL_law 285 = .ok (.iload_n 3, 1) := by
  sorry
theorem dL_law_286 : decode cL_law 286 = .ok (.iconst 1, 1) := by
  sorry
theorem dL_law_287 : decode cL_law 287 = .ok (.iadd, 1) := by
  sorry
theorem dL_law_288 : decode cL_law 288 = .ok (.iaload, 1) := by
  sorry
theorem dL_law_289 : decode cL_law 289 = .ok (.invokevirtual 18, 3) := by
  sorry
theorem dL_law_292 : decode cL_law 292 = .ok (.pop, 1) := by
  sorry
theorem dL_law_293 : decode cL_law 293 = .ok (.aload_n 2, 1) := by
  sorry
theorem dL_law_294 : decode cL_law 294 = .ok (.aload_n 0, 1) := by
  sorry
theorem dL_law_295 : decode cL_law 295 = .ok (.iload_n 3, 1) := by
  sorry
theorem dL_law_296 : decode cL_law 296 = .ok (.iconst 1, 1) := by
  sorry
theorem dL_law_297 : decode cL_law 297 = .ok (.iadd, 1) := by
  sorry
theorem dL_law_298 : decode cL_law 298 = .ok (.iaload, 1) := by
  sorry
theorem dL_law_299 : decode cL_law 299 = .ok (.invokevirtual 22, 3) := by
  sorry
theorem dL_law_302 : decode cL_law 302 = .ok (.pop, 1) := by
  sorry
theorem dL_law_303 : decode cL_law 303 = .ok (.goto 1312, 3) := by
  sorry
theorem dL_law_306 : decode cL_law 306 = .ok (.aload_n 1, 1) := by
  sorry
theorem dL_law_307 : decode cL_law 307 = .ok (.invokevirtual 23, 3) := by
  sorry
theorem dL_law_310 : decode cL_law 310 = .ok (.pop, 1) := by
  sorry
theorem dL_law_311 : decode cL_law 311 = .ok (.aload_n 2, 1) := by
  sorry
theorem dL_law_312 : decode cL_law 312 = .ok (.invokevirtual 27, 3) := by
  sorry
theorem dL_law_315 : decode cL_law 315 = .ok (.pop, 1) := by
  sorry
theorem dL_law_316 : decode cL_law 316 = .ok (.goto 1299, 3) := by
  sorry
theorem dL_law_319 : decode cL_law 319 = .ok (.aload_n 1, 1) := by
  sorry
theorem dL_law_320 : decode cL_law 320 = .ok (.aload_n 0, 1) := by
  sorry
theorem dL_law_321 : decode cL_law 321 = .ok (.iload_n 3, 1) := by
  sorry
theorem dL_law_322 : decode cL_law 322 = .ok (.iconst 1, 1) := by
  sorry
theorem dL_law_323 : decode cL_law 323 = .ok (.iadd, 1) := by
  sorry
theorem dL_law_324 : decode cL_law 324 = .ok (.iaload, 1) := by
  sorry
theorem dL_law_325 : decode cL_law 325 = .ok (.invokevirtual 28, 3) := by
  sorry
theorem dL_law_328 : decode cL_law 328 = .ok (.pop, 1) := by
  sorry
theorem dL_law_329 : decode cL_law 329 = .ok (.aload_n 2, 1) := by
  sorry
theorem dL_law_330 : decode cL_law 330 = .ok (.aload_n 0, 1) := by
  sorry
theorem dL_law_331 : decode cL_law 331 = .ok (.iload_n 3, 1) := by
  sorry
theorem dL_law_332 : decode cL_law 332 = .ok (.iconst 1, 1) := by
  sorry
theorem dL_law_333 : decode cL_law 333 = .ok (.iadd, 1) := by
  sorry
theorem dL_law_334 : decode cL_law 334 = .ok (.iaload, 1) := by
  sorry
theorem dL_law_335 : decode cL_law 335 = .ok (.invokevirtual 31, 3) := by
  sorry
theorem dL_law_338 : decode cL_law 338 = .ok (.pop, 1) := by
  sorry
theorem dL_law_339 : decode cL_law 339 = .ok (.goto 1276, 3) := by
  sorry
theorem dL_law_342 : decode cL_law 342 = .ok (.aload_n 1, 1) := by
  sorry
theorem dL_law_343 : decode cL_law 343 = .ok (.aload_n 0, 1) := by
  sorry
theorem dL_law_344 : decode cL_law 344 = .ok (.iload_n 3, 1) := by
  sorry
theorem dL_law_345 : decode cL_law 345 = .ok (.iconst 1, 1) := by
  sorry
theorem dL_law_346 : decode cL_law 346 = .ok (.iadd, 1) := by
  sorry
theorem dL_law_347 : decode cL_law 347 = .ok (.iaload, 1) := by
  sorry
theorem dL_law_348 : decode cL_law 348 = .ok (.aload_n 0, 1) := by
  sorry
theorem dL_law_349 : decode cL_law 349 = .ok (.iload_n 3, 1) := by
  sorry
theorem dL_law_350 : decode cL_law 350 = .ok (.iconst 2, 1) := by
  sorry
theorem dL_law_351 : decode cL_law 351 = .ok (.iadd, 1) := by
  sorry
theorem dL_law_352 : decode cL_law 352 = .ok (.iaload, 1) := by
  sorry
theorem dL_law_353 : decode cL_law 353 = .ok (.invokevirtual 32, 3) := by
  sorry
theorem dL_law_356 : decode cL_law 356 = .ok (.pop, 1) := by
  sorry
theorem dL_law_357 : decode cL_law 357 = .ok (.aload_n 2, 1) := by
  sorry
theorem dL_law_358 : decode cL_law 358 = .ok (.aload_n 0, 1) := by
  sorry
theorem dL_law_359 : decode cL_law 359 = .ok (.iload_n 3, 1) := by
  sorry
theorem dL_law_360 : decode cL_law 360 = .ok (.iconst 1, 1) := by
  sorry
theorem dL_law_361 : decode cL_law 361 = .ok (.iadd, 1) := by
  sorry
theorem dL_law_362 : decode cL_law 362 = .ok (.iaload, 1) := by
  sorry
theorem dL_law_363 : decode cL_law 363 = .ok (.aload_n 0, 1) := by
  sorry
theorem dL_law_364 : decode cL_law 364 = .ok (.iload_n 3, 1) := by
  sorry
theorem dL_law_365 : decode cL_law 365 = .ok (.iconst 2, 1) := by
  sorry
theorem dL_law_366 : decode cL_law 366 = .ok (.iadd, 1) := by
  sorry
theorem dL_law_367 : decode cL_law 367 = .ok (.iaload, 1) := by
  sorry
theorem dL_law_368 : decode cL_law 368 = .ok (.invokevirtual 36, 3) := by
  sorry
theorem dL_law_371 : decode cL_law 371 = .ok (.pop, 1) := by
  sorry
theorem dL_law_372 : decode cL_law 372 = .ok (.goto 1243, 3) := by
  sorry
theorem dL_law_375 : decode cL_law 375 = .ok (.aload_n 1, 1) := by
  sorry
theorem dL_law_376 : decode cL_law 376 = .ok (.aload_n 0, 1) := by
  sorry
theorem dL_law_377 : decode cL_law 377 = .ok (.iload_n 3, 1) := by
  sorry
theorem dL_law_378 : decode cL_law 378 = .ok (.iconst 1, 1) := by
  sorry
theorem dL_law_379 : decode cL_law 379 = .ok (.iadd, 1) := by
  sorry
theorem dL_law_380 : decode cL_law 380 = .ok (.iaload, 1) := by
  sorry
theorem dL_law_381 : decode cL_law 381 = .ok (.aload_n 0, 1) := by
  sorry
theorem dL_law_382 : decode cL_law 382 = .ok (.iload_n 3, 1) := by
  sorry
theorem dL_law_383 : decode cL_law 383 = .ok (.iconst 2, 1) := by
  sorry
theorem dL_law_384 : decode cL_law 384 = .ok (.iadd, 1) := by
  sorry
theorem dL_law_385 : decode cL_law 385 = .ok (.iaload, 1) := by
  sorry
theorem dL_law_386 : decode cL_law 386 = .ok (.invokevirtual 37, 3) := by
  sorry
theorem dL_law_389 : decode cL_law 389 = .ok (.pop, 1) := by
  sorry
theorem dL_law_390 : decode cL_law 390 = .ok (.aload_n 2, 1) := by
  sorry
theorem dL_law_391 : decode cL_law 391 = .ok (.aload_n 0, 1) := by
  sorry
theorem dL_law_392 : decode cL_law 392 = .ok (.iload_n 3, 1) := by
  sorry
theorem dL_law_393 : decode cL_law 393 = .ok (.iconst 1, 1) := by
  sorry
theorem dL_law_394 : decode cL_law 394 = .ok (.iadd, 1) := by
  sorry
theorem dL_law_395 : decode cL_law 395 = .ok (.iaload, 1) := by
  sorry
theorem dL_law_396 : decode cL_law 396 = .ok (.aload_n 0, 1) := by
  sorry
theorem dL_law_397 : decode cL_law 397 = .ok (.iload_n 3, 1) := by
  sorry
theorem dL_law_398 : decode cL_law 398 = .ok (.iconst 2, 1) := by
  sorry
theorem dL_law_399 : decode cL_law 399 = .ok (.iadd, 1) := by
  sorry
theorem dL_law_400 : decode cL_law 400 = .ok (.iaload, 1) := by
  sorry
theorem dL_law_401 : decode cL_law 401 = .ok (.invokevirtual 40, 3) := by
  sorry
theorem dL_law_404 : decode cL_law 404 = .ok (.pop, 1) := by
  sorry
theorem dL_law_405 : decode cL_law 405 = .ok (.goto 1210, 3) := by
  sorry
theorem dL_law_408 : decode cL_law 408 = .ok (.aload_n 1, 1) := by
  sorry
theorem dL_law_409 : decode cL_law 409 = .ok (.aload_n 0, 1) := by
  sorry
theorem dL_law_410 : decode cL_law 410 = .ok (.iload_n 3, 1) := by
  sorry
theorem dL_law_411 : decode cL_law 411 = .ok (.iconst 1, 1) := by
  sorry
theorem dL_law_412 : decode cL_law 412 = .ok (.iadd, 1) := by
  sorry
theorem dL_law_413 : decode cL_law 413 = .ok (.iaload, 1) := by
  sorry
theorem dL_law_414 : decode cL_law 414 = .ok (.aload_n 0, 1) := by
  sorry
theorem dL_law_415 : decode cL_law 415 = .ok (.iload_n 3, 1) := by
  sorry
theorem dL_law_416 : decode cL_law 416 = .ok (.iconst 2, 1) := by
  sorry
theorem dL_law_417 : decode cL_law 417 = .ok (.iadd, 1) := by
  sorry
theorem dL_law_418 : decode cL_law 418 = .ok (.iaload, 1) := by
  sorry
theorem dL_law_419 : decode cL_law 419 = .ok (.aload_n 0, 1) := by
  sorry
theorem dL_law_420 : decode cL_law 420 = .ok (.iload_n 3, 1) := by
  sorry
theorem dL_law_421 : decode cL_law 421 = .ok (.iconst 3, 1) := by
  sorry
theorem dL_law_422 : decode cL_law 422 = .ok (.iadd, 1) := by
  sorry
theorem dL_law_423 : decode cL_law 423 = .ok (.iaload, 1) := by
  sorry
theorem dL_law_424 : decode cL_law 424 = .ok (.aload_n 0, 1) := by
  sorry
theorem dL_law_425 : decode cL_law 425 = .ok (.iload_n 3, 1) := by
  sorry
theorem dL_law_426 : decode cL_law 426 = .ok (.iconst 4, 1) := by
  sorry
theorem dL_law_427 : decode cL_law 427 = .ok (.iadd, 1) := by
  sorry
theorem dL_law_428 : decode cL_law 428 = .ok (.iaload, 1) := by
  sorry
theorem dL_law_429 : decode cL_law 429 = .ok (.invokevirtual 41, 3) := by
  sorry
theorem dL_law_432 : decode cL_law 432 = .ok (.pop, 1) := by
  sorry
theorem dL_law_433 : decode cL_law 433 = .ok (.aload_n 2, 1) := by
  sorry
theorem dL_law_434 : decode cL_law 434 = .ok (.aload_n 0, 1) := by
  sorry
theorem dL_law_435 : decode cL_law 435 = .ok (.iload_n 3, 1) := by
  sorry
theorem dL_law_436 : decode cL_law 436 = .ok (.iconst 1, 1) := by
  sorry
theorem dL_law_437 : decode cL_law 437 = .ok (.iadd, 1) := by
  sorry
theorem dL_law_438 : decode cL_law 438 = .ok (.iaload, 1) := by
  sorry
theorem dL_law_439 : decode cL_law 439 = .ok (.aload_n 0, 1) := by
  sorry
theorem dL_law_440 : decode cL_law 440 = .ok (.iload_n 3, 1) := by
  sorry
theorem dL_law_441 : decode cL_law 441 = .ok (.iconst 2, 1) := by
  sorry
theorem dL_law_442 : decode cL_law 442 = .ok (.iadd, 1) := by
  sorry
theorem dL_law_443 : decode cL_law 443 = .ok (.iaload, 1) := by
  sorry
theorem dL_law_444 : decode cL_law 444 = .ok (.aload_n 0, 1) := by
  sorry
theorem dL_law_445 : decode cL_law 445 = .ok (.iload_n 3, 1) := by
  sorry
theorem dL_law_446 : decode cL_law 446 = .ok (.iconst 3, 1) := by
  sorry
theorem dL_law_447 : decode cL_law 447 = .ok (.iadd, 1) := by
  sorry
theorem dL_law_448 : decode cL_law 448 = .ok (.iaload, 1) := by
  sorry
theorem dL_law_449 : decode cL_law 449 = .ok (.aload_n 0, 1) := by
  sorry
theorem dL_law_450 : decode cL_law 450 = .ok (.iload_n 3, 1) := by
  sorry
theorem dL_law_451 : decode cL_law 451 = .ok (.iconst 4, 1) := by
  sorry
theorem dL_law_452 : decode cL_law 452 = .ok (.iadd, 1) := by
  sorry
theorem dL_law_453 : decode cL_law 453 = .ok (.iaload, 1) := by
  sorry
theorem dL_law_454 : decode cL_law 454 = .ok (.invokevirtual 45, 3) := by
  sorry
theorem dL_law_457 : decode cL_law 457 = .ok (.pop, 1) := by
  sorry
theorem dL_law_458 : decode cL_law 458 = .ok (.goto 1157, 3) := by
  sorry
theorem dL_law_461 : decode cL_law 461 = .ok (.aload_n 1, 1) := by
  sorry
theorem dL_law_462 : decode cL_law 462 = .ok (.aload_n 0, 1) := by
  sorry
theorem dL_law_463 : decode cL_law 463 = .ok (.iload_n 3, 1) := by
  sorry
theorem dL_law_464 : decode cL_law 464 = .ok (.iconst 1, 1) := by
  sorry
theorem dL_law_465 : decode cL_law 465 = .ok (.iadd, 1) := by
  sorry
theorem dL_law_466 : decode cL_law 466 = .ok (.iaload, 1) := by
  sorry
theorem dL_law_467 : decode cL_law 467 = .ok (.aload_n 0, 1) := by
  sorry
theorem dL_law_468 : decode cL_law 468 = .ok (.iload_n 3, 1) := by
  sorry
theorem dL_law_469 : decode cL_law 469 = .ok (.iconst 2, 1) := by
  sorry
theorem dL_law_470 : decode cL_law 470 = .ok (.iadd, 1) := by
  sorry
theorem dL_law_471 : decode cL_law 471 = .ok (.iaload, 1) := by
  sorry
theorem dL_law_472 : decode cL_law 472 = .ok (.invokevirtual 46, 3) := by
  sorry
theorem dL_law_475 : decode cL_law 475 = .ok (.pop, 1) := by
  sorry
theorem dL_law_476 : decode cL_law 476 = .ok (.aload_n 2, 1) := by
  sorry
theorem dL_law_477 : decode cL_law 477 = .ok (.aload_n 0, 1) := by
  sorry
theorem dL_law_478 : decode cL_law 478 = .ok (.iload_n 3, 1) := by
  sorry
theorem dL_law_479 : decode cL_law 479 = .ok (.iconst 1, 1) := by
  sorry
theorem dL_law_480 : decode cL_law 480 = .ok (.iadd, 1) := by
  sorry
theorem dL_law_481 : decode cL_law 481 = .ok (.iaload, 1) := by
  sorry
theorem dL_law_482 : decode cL_law 482 = .ok (.aload_n 0, 1) := by
  sorry
theorem dL_law_483 : decode cL_law 483 = .ok (.iload_n 3, 1) := by
  sorry
theorem dL_law_484 : decode cL_law 484 = .ok (.iconst 2, 1) := by
  sorry
theorem dL_law_485 : decode cL_law 485 = .ok (.iadd, 1) := by
  sorry
theorem dL_law_486 : decode cL_law 486 = .ok (.iaload, 1) := by
  sorry
theorem dL_law_487 : decode cL_law 487 = .ok (.invokevirtual 49, 3) := by
  sorry
theorem dL_law_490 : decode cL_law 490 = .ok (.pop, 1) := by
  sorry
theorem dL_law_491 : decode cL_law 491 = .ok (.goto 1124, 3) := by
  sorry
theorem dL_law_494 : decode cL_law 494 = .ok (.aload_n 1, 1) := by
  sorry
theorem dL_law_495 : decode cL_law 495 = .ok (.aload_n 0, 1) := by
  sorry
theorem dL_law_496 : decode cL_law 496 = .ok (.iload_n 3, 1) := by
  sorry
theorem dL_law_497 : decode cL_law 497 = .ok (.iconst 1, 1) := by
  sorry
theorem dL_law_498 : decode cL_law 498 = .ok (.iadd, 1) := by
  sorry
theorem dL_law_499 : decode cL_law 499 = .ok (.iaload, 1) := by
  sorry
theorem dL_law_500 : decode cL_law 500 = .ok (.aload_n 0, 1) := by
  sorry
theorem dL_law_501 : decode cL_law 501 = .ok (.iload_n 3, 1) := by
  sorry
theorem dL_law_502 : decode cL_law 502 = .ok (.iconst 2, 1) := by
  sorry
theorem dL_law_503 : decode cL_law 503 = .ok (.iadd, 1) := by
  sorry
theorem dL_law_504 : decode cL_law 504 = .ok (.iaload, 1) := by
  sorry
theorem dL_law_505 : decode cL_law 505 = .ok (.aload_n 0, 1) := by
  sorry
theorem dL_law_506 : decode cL_law 506 = .ok (.iload_n 3, 1) := by
  sorry
theorem dL_law_507 : decode cL_law 507 = .ok (.iconst 3, 1) := by
  sorry
theorem dL_law_508 : decode cL_law 508 = .ok (.iadd, 1) := by
  sorry
theorem dL_law_509 : decode cL_law 509 = .ok (.iaload, 1) := by
  sorry
theorem dL_law_510 : decode cL_law 510 = .ok (.aload_n 0, 1) := by
  sorry
theorem dL_law_511 : decode cL_law 511 = .ok (.iload_n 3, 1) := by
  sorry
theorem dL_law_512 : decode cL_law 512 = .ok (.iconst 4, 1) := by
  sorry
theorem dL_law_513 : decode cL_law 513 = .ok (.iadd, 1) := by
  sorry
theorem dL_law_514 : decode cL_law 514 = .ok (.iaload, 1) := by
  sorry
theorem dL_law_515 : decode cL_law 515 = .ok (.invokevirtual 50, 3) := by
  sorry
theorem dL_law_518 : decode cL_law 518 = .ok (.pop, 1) := by
  sorry
theorem dL_law_519 : decode cL_law 519 = .ok (.aload_n 2, 1) := by
  sorry
theorem dL_law_520 : decode cL_law 520 = .ok (.aload_n 0, 1) := by
  sorry
theorem dL_law_521 : decode cL_law 521 = .ok (.iload_n 3, 1) := by
  sorry
theorem dL_law_522 : decode cL_law 522 = .ok (.iconst 1, 1) := by
  sorry
theorem dL_law_523 : decode cL_law 523 = .ok (.iadd, 1) := by
  sorry
theorem dL_law_524 : decode cL_law 524 = .ok (.iaload, 1) := by
  sorry
theorem dL_law_525 : decode cL_law 525 = .ok (.aload_n 0, 1) := by
  sorry
theorem dL_law_526 : decode cL_law 526 = .ok (.iload_n 3, 1) := by
  sorry
theorem dL_law_527 : decode cL_law 527 = .ok (.iconst 2, 1) := by
  sorry
theorem dL_law_528 : decode cL_law 528 = .ok (.iadd, 1) := by
  sorry
theorem dL_law_529 : decode cL_law 529 = .ok (.iaload, 1) := by
  sorry
theorem dL_law_530 : decode cL_law 530 = .ok (.aload_n 0, 1) := by
  sorry
theorem dL_law_531 : decode cL_law 531 = .ok (.iload_n 3, 1) := by
  sorry
theorem dL_law_532 : decode cL_law 532 = .ok (.iconst 3, 1) := by
  sorry
theorem dL_law_533 : decode cL_law 533 = .ok (.iadd, 1) := by
  sorry
theorem dL_law_534 : decode cL_law 534 = .ok (.iaload, 1) := by
  sorry
theorem dL_law_535 : decode cL_law 535 = .ok (.aload_n 0, 1) := by
  sorry
theorem dL_law_536 : decode cL_law 536 = .ok (.iload_n 3, 1) := by
  sorry
theorem dL_law_537 : decode cL_law 537 = .ok (.iconst 4, 1) := by
  sorry
theorem dL_law_538 : decode cL_law 538 = .ok (.iadd, 1) := by
  sorry
theorem dL_law_539 : decode cL_law 539 = .ok (.iaload, 1) := by
  sorry
theorem dL_law_540 : decode cL_law 540 = .ok (.invokevirtual 53, 3) := by
  sorry
theorem dL_law_543 : decode cL_law 543 = .ok (.pop, 1) := by
  sorry
theorem dL_law_544 : decode cL_law 544 = .ok (.goto 1071, 3) := by
  sorry
theorem dL_law_547 : decode cL_law 547 = .ok (.aload_n 1, 1) := by
  sorry
theorem dL_law_548 : decode cL_law 548 = .ok (.aload_n 0, 1) := by
  sorry
theorem dL_law_549 : decode cL_law 549 = .ok (.iload_n 3, 1) := by
  sorry
theorem dL_law_550 : decode cL_law 550 = .ok (.iconst 1, 1) := by
  sorry
theorem dL_law_551 : decode cL_law 551 = .ok (.iadd, 1) := by
  sorry
theorem dL_law_552 : decode cL_law 552 = .ok (.iaload, 1) := by
  sorry
theorem dL_law_553 : decode cL_law 553 = .ok (.aload_n 0, 1) := by
  sorry
theorem dL_law_554 : decode cL_law 554 = .ok (.iload_n 3, 1) := by
  sorry
theorem dL_law_555 : decode cL_law 555 = .ok (.iconst 2, 1) := by
  sorry
theorem dL_law_556 : decode cL_law 556 = .ok (.iadd, 1) := by
  sorry
theorem dL_law_557 : decode cL_law 557 = .ok (.iaload, 1) := by
  sorry
theorem dL_law_558 : decode cL_law 558 = .ok (.invokevirtual 54, 3) := by
  sorry
theorem dL_law_561 : decode cL_law 561 = .ok (.pop, 1) := by
  sorry
theorem dL_law_562 : decode cL_law 562 = .ok (.aload_n 2, 1) := by
  sorry
theorem dL_law_563 : decode cL_law 563 = .ok (.aload_n 0, 1) := by
  sorry
theorem dL_law_564 : decode cL_law 564 = .ok (.iload_n 3, 1) := by
  sorry
theorem dL_law_565 : decode cL_law 565 = .ok (.iconst 1, 1) := by
  sorry
theorem dL_law_566 : decode cL_law 566 = .ok (.iadd, 1) := by
  sorry
theorem dL_law_567 : decode cL_law 567 = .ok (.iaload, 1) := by
  sorry
theorem dL_law_568 : decode cL_law 568 = .ok (.aload_n 0, 1) := by
  sorry
theorem dL_law_569 : decode cL_law 569 = .ok (.iload_n 3, 1) := by
  sorry
theorem dL_law_570 : decode cL_law 570 = .ok (.iconst 2, 1) := by
  sorry
theorem dL_law_571 : decode cL_law 571 = .ok (.iadd, 1) := by
  sorry
theorem dL_law_572 : decode cL_law 572 = .ok (.iaload, 1) := by
  sorry
theorem dL_law_573 : decode cL_law 573 = .ok (.invokevirtual 57, 3) := by
  sorry
theorem dL_law_576 : decode cL_law 576 = .ok (.pop, 1) := by
  sorry
theorem dL_law_577 : decode cL_law 577 = .ok (.goto 1038, 3) := by
  sorry
theorem dL_law_580 : decode cL_law 580 = .ok (.aload_n 1, 1) := by
  sorry
theorem dL_law_581 : decode cL_law 581 = .ok (.aload_n 0, 1) := by
  sorry
theorem dL_law_582 : decode cL_law 582 = .ok (.iload_n 3, 1) := by
  sorry
theorem dL_law_583 : decode cL_law 583 = .ok (.iconst 1, 1) := by
  sorry
theorem dL_law_584 : decode cL_law 584 = .ok (.iadd, 1) := by
  sorry
theorem dL_law_585 : decode cL_law 585 = .ok (.iaload, 1) := by
  sorry
theorem dL_law_586 : decode cL_law 586 = .ok (.aload_n 0, 1) := by
  sorry
theorem dL_law_587 : decode cL_law 587 = .ok (.iload_n 3, 1) := by
  sorry
theorem dL_law_588 : decode cL_law 588 = .ok (.iconst 2, 1) := by
  sorry
theorem dL_law_589 : decode cL_law 589 = .ok (.iadd, 1) := by
  sorry
theorem dL_law_590 : decode cL_law 590 = .ok (.iaload, 1) := by
  sorry
theorem dL_law_591 : decode cL_law 591 = .ok (.invokevirtual 58, 3) := by
  sorry
theorem dL_law_594 : decode cL_law 594 = .ok (.pop, 1) := by
  sorry
theorem dL_law_595 : decode cL_law 595 = .ok (.aload_n 2, 1) := by
  sorry
theorem dL_law_596 : decode cL_law 596 = .ok (.aload_n 0, 1) := by
  sorry
theorem dL_law_597 : decode cL_law 597 = .ok (.iload_n 3, 1) := by
  sorry
theorem dL_law_598 : decode cL_law 598 = .ok (.iconst 1, 1) := by
  sorry
theorem dL_law_599 : decode cL_law 599 = .ok (.iadd, 1) := by
  sorry
theorem dL_law_600 : decode cL_law 600 = .ok (.iaload, 1) := by
  sorry
theorem dL_law_601 : decode cL_law 601 = .ok (.aload_n 0, 1) := by
  sorry
theorem dL_law_602 : decode cL_law 602 = .ok (.iload_n 3, 1) := by
  sorry
theorem dL_law_603 : decode cL_law 603 = .ok (.iconst 2, 1) := by
  sorry
theorem dL_law_604 : decode cL_law 604 = .ok (.iadd, 1) := by
  sorry
theorem dL_law_605 : decode cL_law 605 = .ok (.iaload, 1) := by
  sorry
theorem dL_law_606 : decode cL_law 606 = .ok (.invokevirtual 61, 3) := by
  sorry
theorem dL_law_609 : decode cL_law 609 = .ok (.pop, 1) := by
  sorry
theorem dL_law_610 : decode cL_law 610 = .ok (.goto 1005, 3) := by
  sorry
theorem dL_law_613 : decode cL_law 613 = .ok (.aload_n 1, 1) := by
  sorry
theorem dL_law_614 : decode cL_law 614 = .ok (.aload_n 0, 1) := by
  sorry
theorem dL_law_615 : decode cL_law 615 = .ok (.iload_n 3, 1) := by
  sorry
theorem dL_law_616 : decode cL_law 616 = .ok (.iconst 1, 1) := by
  sorry
theorem dL_law_617 : decode cL_law 617 = .ok (.iadd, 1) := by
  sorry
theorem dL_law_618 : decode cL_law 618 = .ok (.iaload, 1) := by
  sorry
theorem dL_law_619 : decode cL_law 619 = .ok (.invokevirtual 62, 3) := by
  sorry
theorem dL_law_622 : decode cL_law 622 = .ok (.pop, 1) := by
  sorry
theorem dL_law_623 : decode cL_law 623 = .ok (.aload_n 2, 1) := by
  sorry
theorem dL_law_624 : decode cL_law 624 = .ok (.aload_n 0, 1) := by
  sorry
theorem dL_law_625 : decode cL_law 625 = .ok (.iload_n 3, 1) := by
  sorry
theorem dL_law_626 : decode cL_law 626 = .ok (.iconst 1, 1) := by
  sorry
theorem dL_law_627 : decode cL_law 627 = .ok (.iadd, 1) := by
  sorry
theorem dL_law_628 : decode cL_law 628 = .ok (.iaload, 1) := by
  sorry
theorem dL_law_629 : decode cL_law 629 = .ok (.invokevirtual 65, 3) := by
  sorry
theorem dL_law_632 : decode cL_law 632 = .ok (.pop, 1) := by
  sorry
theorem dL_law_633 : decode cL_law 633 = .ok (.goto 982, 3) := by
  sorry
theorem dL_law_636 : decode cL_law 636 = .ok (.aload_n 1, 1) := by
  sorry
theorem dL_law_637 : decode cL_law 637 = .ok (.aload_n 0, 1) := by
  sorry
theorem dL_law_638 : decode cL_law 638 = .ok (.iload_n 3, 1) := by
  sorry
theorem dL_law_639 : decode cL_law 639 = .ok (.iconst 1, 1) := by
  sorry
theorem dL_law_640 : decode cL_law 640 = .ok (.iadd, 1) := by
  sorry
theorem dL_law_641 : decode cL_law 641 = .ok (.iaload, 1) := by
  sorry
theorem dL_law_642 : decode cL_law 642 = .ok (.aload_n 0, 1) := by
  sorry
theorem dL_law_643 : decode cL_law 643 = .ok (.iload_n 3, 1) := by
  sorry
theorem dL_law_644 : decode cL_law 644 = .ok (.iconst 2, 1) := by
  sorry
theorem dL_law_645 : decode cL_law 645 = .ok (.iadd, 1) := by
  sorry
theorem dL_law_646 : decode cL_law 646 = .ok (.iaload, 1) := by
  sorry
theorem dL_law_647 : decode cL_law 647 = .ok (.invokevirtual 66, 3) := by
  sorry
theorem dL_law_650 : decode cL_law 650 = .ok (.pop, 1) := by
  sorry
theorem dL_law_651 : decode cL_law 651 = .ok (.aload_n 2, 1) := by
  sorry
theorem dL_law_652 : decode cL_law 652 = .ok (.aload_n 0, 1) := by
  sorry
theorem dL_law_653 : decode cL_law 653 = .ok (.iload_n 3, 1) := by
  sorry
theorem dL_law_654 : decode cL_law 654 = .ok (.iconst 1, 1) := by
  sorry
theorem dL_law_655 : decode cL_law 655 = .ok (.iadd, 1) := by
  sorry
theorem dL_law_656 : decode cL_law 656 = .ok (.iaload, 1) := by
  sorry
theorem dL_law_657 : decode cL_law 657 = .ok (.aload_n 0, 1) := by
  sorry
theorem dL_law_658 : decode cL_law 658 = .ok (.iload_n 3, 1) := by
  sorry
theorem dL_law_659 : decode cL_law 659 = .ok (.iconst 2, 1) := by
  sorry
theorem dL_law_660 : decode cL_law 660 = .ok (.iadd, 1) := by
  sorry
theorem dL_law_661 : decode cL_law 661 = .ok (.iaload, 1) := by
  sorry
theorem dL_law_662 : decode cL_law 662 = .ok (.invokevirtual 69, 3) := by
  sorry
theorem dL_law_665 : decode cL_law 665 = .ok (.pop, 1) := by
  sorry
theorem dL_law_666 : decode cL_law 666 = .ok (.goto 949, 3) := by
  sorry
theorem dL_law_669 : decode cL_law 669 = .ok (.aload_n 1, 1) := by
  sorry
theorem dL_law_670 : decode cL_law 670 = .ok (.invokevirtual 70, 3) := by
  sorry
theorem dL_law_673 : decode cL_law 673 = .ok (.pop2, 1) := by
  sorry
theorem dL_law_674 : decode cL_law 674 = .ok (.aload_n 2, 1) := by
  sorry
theorem dL_law_675 : decode cL_law 675 = .ok (.invokevirtual 74, 3) := by
  sorry
theorem dL_law_678 : decode cL_law 678 = .ok (.pop2, 1) := by
  sorry
theorem dL_law_679 : decode cL_law 679 = .ok (.goto 936, 3) := by
  sorry
theorem dL_law_682 : decode cL_law 682 = .ok (.aload_n 1, 1) := by
  sorry
theorem dL_law_683 : decode cL_law 683 = .ok (.aload_n 0, 1) := by
  sorry
theorem dL_law_684 : decode cL_law 684 = .ok (.iload_n 3, 1) := by
  sorry
theorem dL_law_685 : decode cL_law 685 = .ok (.iconst 1, 1) := by
  sorry
theorem dL_law_686 : decode cL_law 686 = .ok (.iadd, 1) := by
  sorry
theorem dL_law_687 : decode cL_law 687 = .ok (.iaload, 1) := by
  sorry
theorem dL_law_688 : decode cL_law 688 = .ok (.invokevirtual 75, 3) := by
  sorry
theorem dL_law_691 : decode cL_law 691 = .ok (.pop2, 1) := by
  sorry
theorem dL_law_692 : decode cL_law 692 = .ok (.aload_n 2, 1) := by
  sorry
theorem dL_law_693 : decode cL_law 693 = .ok (.aload_n 0, 1) := by
  sorry
theorem dL_law_694 : decode cL_law 694 = .ok (.iload_n 3, 1) := by
  sorry
theorem dL_law_695 : decode cL_law 695 = .ok (.iconst 1, 1) := by
  sorry
theorem dL_law_696 : decode cL_law 696 = .ok (.iadd, 1) := by
  sorry
theorem dL_law_697 : decode cL_law 697 = .ok (.iaload, 1) := by
  sorry
theorem dL_law_698 : decode cL_law 698 = .ok (.invokevirtual 79, 3) := by
  sorry
theorem dL_law_701 : decode cL_law 701 = .ok (.pop2, 1) := by
  sorry
theorem dL_law_702 : decode cL_law 702 = .ok (.goto 913, 3) := by
  sorry
theorem dL_law_705 : decode cL_law 705 = .ok (.aload_n 1, 1) := by
  sorry
theorem dL_law_706 : decode cL_law 706 = .ok (.invokevirtual 80, 3) := by
  sorry
theorem dL_law_709 : decode cL_law 709 = .ok (.pop2, 1) := by
  sorry
theorem dL_law_710 : decode cL_law 710 = .ok (.aload_n 2, 1) := by
  sorry
theorem dL_law_711 : decode cL_law 711 = .ok (.invokevirtual 83, 3) := by
  sorry
theorem dL_law_714 : decode cL_law 714 = .ok (.pop2, 1) := by
  sorry
theorem dL_law_715 : decode cL_law 715 = .ok (.goto 900, 3) := by
  sorry
theorem dL_law_718 : decode cL_law 718 = .ok (.aload_n 1, 1) := by
  sorry
theorem dL_law_719 : decode cL_law 719 = .ok (.invokevirtual 84, 3) := by
  sorry
theorem dL_law_722 : decode cL_law 722 = .ok (.pop, 1) := by
  sorry
theorem dL_law_723 : decode cL_law 723 = .ok (.aload_n 2, 1) := by
  sorry
theorem dL_law_724 : decode cL_law 724 = .ok (.invokevirtual 87, 3) := by
  sorry
theorem dL_law_727 : decode cL_law 727 = .ok (.pop, 1) := by
  sorry
theorem dL_law_728 : decode cL_law 728 = .ok (.goto 887, 3) := by
  sorry
theorem dL_law_731 : decode cL_law 731 = .ok (.aload_n 1, 1) := by
  sorry
theorem dL_law_732 : decode cL_law 732 = .ok (.aload_n 0, 1) := by
  sorry
theorem dL_law_733 : decode cL_law 733 = .ok (.iload_n 3, 1) := by
  sorry
theorem dL_law_734 : decode cL_law 734 = .ok (.iconst 1, 1) := by
  sorry
theorem dL_law_735 : decode cL_law 735 = .ok (.iadd, 1) := by
  sorry
theorem dL_law_736 : decode cL_law 736 = .ok (.iaload, 1) := by
  sorry
theorem dL_law_737 : decode cL_law 737 = .ok (.invokevirtual 88, 3) := by
  sorry
theorem dL_law_740 : decode cL_law 740 = .ok (.pop2, 1) := by
  sorry
theorem dL_law_741 : decode cL_law 741 = .ok (.aload_n 2, 1) := by
  sorry
theorem dL_law_742 : decode cL_law 742 = .ok (.aload_n 0, 1) := by
  sorry
theorem dL_law_743 : decode cL_law 743 = .ok (.iload_n 3, 1) := by
  sorry
theorem dL_law_744 : decode cL_law 744 = .ok (.iconst 1, 1) := by
  sorry
theorem dL_law_745 : decode cL_law 745 = .ok (.iadd, 1) := by
  sorry
theorem dL_law_746 : decode cL_law 746 = .ok (.iaload, 1) := by
  sorry
theorem dL_law_747 : decode cL_law 747 = .ok (.invokevirtual 91, 3) := by
  sorry
theorem dL_law_750 : decode cL_law 750 = .ok (.pop2, 1) := by
  sorry
theorem dL_law_751 : decode cL_law 751 = .ok (.goto 864, 3) := by
  sorry
theorem dL_law_754 : decode cL_law 754 = .ok (.aload_n 1, 1) := by
  sorry
theorem dL_law_755 : decode cL_law 755 = .ok (.aload_n 0, 1) := by
  sorry
theorem dL_law_756 : decode cL_law 756 = .ok (.iload_n 3, 1) := by
  sorry
theorem dL_law_757 : decode cL_law 757 = .ok (.iconst 1, 1) := by
  sorry
theorem dL_law_758 : decode cL_law 758 = .ok (.iadd, 1) := by
  sorry
theorem dL_law_759 : decode cL_law 759 = .ok (.iaload, 1) := by
  sorry
theorem dL_law_760 : decode cL_law 760 = .ok (.invokevirtual 92, 3) := by
  sorry
theorem dL_law_763 : decode cL_law 763 = .ok (.pop2, 1) := by
  sorry
theorem dL_law_764 : decode cL_law 764 = .ok (.aload_n 2, 1) := by
  sorry
theorem dL_law_765 : decode cL_law 765 = .ok (.aload_n 0, 1) := by
  sorry
theorem dL_law_766 : decode cL_law 766 = .ok (.iload_n 3, 1) := by
  sorry
theorem dL_law_767 : decode cL_law 767 = .ok (.iconst 1, 1) := by
  sorry
theorem dL_law_768 : decode cL_law 768 = .ok (.iadd, 1) := by
  sorry
theorem dL_law_769 : decode cL_law 769 = .ok (.iaload, 1) := by
  sorry
theorem dL_law_770 : decode cL_law 770 = .ok (.invokevirtual 95, 3) := by
  sorry
theorem dL_law_773 : decode cL_law 773 = .ok (.pop2, 1) := by
  sorry
theorem dL_law_774 : decode cL_law 774 = .ok (.goto 841, 3) := by
  sorry
theorem dL_law_777 : decode cL_law 777 = .ok (.aload_n 1, 1) := by
  sorry
theorem dL_law_778 : decode cL_law 778 = .ok (.invokevirtual 96, 3) := by
  sorry
theorem dL_law_781 : decode cL_law 781 = .ok (.pop, 1) := by
  sorry
theorem dL_law_782 : decode cL_law 782 = .ok (.aload_n 2, 1) := by
  sorry
theorem dL_law_783 : decode cL_law 783 = .ok (.invokevirtual 99, 3) := by
  sorry
theorem dL_law_786 : decode cL_law 786 = .ok (.pop, 1) := by
  sorry
theorem dL_law_787 : decode cL_law 787 = .ok (.goto 828, 3) := by
  sorry
theorem dL_law_790 : decode cL_law 790 = .ok (.aload_n 1, 1) := by
  sorry
theorem dL_law_791 : decode cL_law 791 = .ok (.aload_n 0, 1) := by
  sorry
theorem dL_law_792 : decode cL_law 792 = .ok (.iload_n 3, 1) := by
  sorry
theorem dL_law_793 : decode cL_law 793 = .ok (.iconst 1, 1) := by
  sorry
theorem dL_law_794 : decode cL_law 794 = .ok (.iadd, 1) := by
  sorry
theorem dL_law_795 : decode cL_law 795 = .ok (.iaload, 1) := by
  sorry
theorem dL_law_796 : decode cL_law 796 = .ok (.aload_n 0, 1) := by
  sorry
theorem dL_law_797 : decode cL_law 797 = .ok (.iload_n 3, 1) := by
  sorry
theorem dL_law_798 : decode cL_law 798 = .ok (.iconst 2, 1) := by
  sorry
theorem dL_law_799 : decode cL_law 799 = .ok (.iadd, 1) := by
  sorry
theorem dL_law_800 : decode cL_law 800 = .ok (.iaload, 1) := by
  sorry
theorem dL_law_801 : decode cL_law 801 = .ok (.aload_n 0, 1) := by
  sorry
theorem dL_law_802 : decode cL_law 802 = .ok (.iload_n 3, 1) := by
  sorry
theorem dL_law_803 : decode cL_law 803 = .ok (.iconst 3, 1) := by
  sorry
theorem dL_law_804 : decode cL_law 804 = .ok (.iadd, 1) := by
  sorry
theorem dL_law_805 : decode cL_law 805 = .ok (.iaload, 1) := by
  sorry
theorem dL_law_806 : decode cL_law 806 = .ok (.invokevirtual 100, 3) := by
  sorry
theorem dL_law_809 : decode cL_law 809 = .ok (.pop, 1) := by
  sorry
theorem dL_law_810 : decode cL_law 810 = .ok (.aload_n 2, 1) := by
  sorry
theorem dL_law_811 : decode cL_law 811 = .ok (.aload_n 0, 1) := by
  sorry
theorem dL_law_812 : decode cL_law 812 = .ok (.iload_n 3, 1) := by
  sorry
theorem dL_law_813 : decode cL_law 813 = .ok (.iconst 1, 1) := by
  sorry
theorem dL_law_814 : decode cL_law 814 = .ok (.iadd, 1) := by
  sorry
theorem dL_law_815 : decode cL_law 815 = .ok (.iaload, 1) := by
  sorry
theorem dL_law_816 : decode cL_law 816 = .ok (.aload_n 0, 1) := by
  sorry
theorem dL_law_817 : decode cL_law 817 = .ok (.iload_n 3, 1) := by
  sorry
theorem dL_law_818 : decode cL_law 818 = .ok (.iconst 2, 1) := by
  sorry
theorem dL_law_819 : decode cL_law 819 = .ok (.iadd, 1) := by
  sorry
theorem dL_law_820 : decode cL_law 820 = .ok (.iaload, 1) := by
  sorry
theorem dL_law_821 : decode cL_law 821 = .ok (.aload_n 0, 1) := by
  sorry
theorem dL_law_822 : decode cL_law 822 = .ok (.iload_n 3, 1) := by
  sorry
theorem dL_law_823 : decode cL_law 823 = .ok (.iconst 3, 1) := by
  sorry
theorem dL_law_824 : decode cL_law 824 = .ok (.iadd, 1) := by
  sorry
theorem dL_law_825 : decode cL_law 825 = .ok (.iaload, 1) := by
  sorry
theorem dL_law_826 : decode cL_law 826 = .ok (.invokevirtual 104, 3) := by
  sorry
theorem dL_law_829 : decode cL_law 829 = .ok (.pop, 1) := by
  sorry
theorem dL_law_830 : decode cL_law 830 = .ok (.goto 785, 3) := by
  sorry
theorem dL_law_833 : decode cL_law 833 = .ok (.aload_n 1, 1) := by
  sorry
theorem dL_law_834 : decode cL_law 834 = .ok (.aload_n 0, 1) := by
  sorry
theorem dL_law_835 : decode cL_law 835 = .ok (.iload_n 3, 1) := by
  sorry
theorem dL_law_836 : decode cL_law 836 = .ok (.iconst 1, 1) := by
  sorry
theorem dL_law_837 : decode cL_law 837 = .ok (.iadd, 1) := by
  sorry
theorem dL_law_838 : decode cL_law 838 = .ok (.iaload, 1) := by
  sorry
theorem dL_law_839 : decode cL_law 839 = .ok (.aload_n 0, 1) := by
  sorry
theorem dL_law_840 : decode cL_law 840 = .ok (.iload_n 3, 1) := by
  sorry
theorem dL_law_841 : decode cL_law 841 = .ok (.iconst 2, 1) := by
  sorry
theorem dL_law_842 : decode cL_law 842 = .ok (.iadd, 1) := by
  sorry
theorem dL_law_843 : decode cL_law 843 = .ok (.iaload, 1) := by
  sorry
theorem dL_law_844 : decode cL_law 844 = .ok (.aload_n 0, 1) := by
  sorry
theorem dL_law_845 : decode cL_law 845 = .ok (.iload_n 3, 1) := by
  sorry
theorem dL_law_846 : decode cL_law 846 = .ok (.iconst 3, 1) := by
  sorry
theorem dL_law_847 : decode cL_law 847 = .ok (.iadd, 1) := by
  sorry
theorem dL_law_848 : decode cL_law 848 = .ok (.iaload, 1) := by
  sorry
theorem dL_law_849 : decode cL_law 849 = .ok (.invokevirtual 105, 3) := by
  sorry
theorem dL_law_852 : decode cL_law 852 = .ok (.pop, 1) := by
  sorry
theorem dL_law_853 : decode cL_law 853 = .ok (.aload_n 2, 1) := by
  sorry
theorem dL_law_854 : decode cL_law 854 = .ok (.aload_n 0, 1) := by
  sorry
theorem dL_law_855 : decode cL_law 855 = .ok (.iload_n 3, 1) := by
  sorry
theorem dL_law_856 : decode cL_law 856 = .ok (.iconst 1, 1) := by
  sorry
theorem dL_law_857 : decode cL_law 857 = .ok (.iadd, 1) := by
  sorry
theorem dL_law_858 : decode cL_law 858 = .ok (.iaload, 1) := by
  sorry
theorem dL_law_859 : decode cL_law 859 = .ok (.aload_n 0, 1) := by
  sorry
theorem dL_law_860 : decode cL_law 860 = .ok (.iload_n 3, 1) := by
  sorry
theorem dL_law_861 : decode cL_law 861 = .ok (.iconst 2, 1) := by
  sorry
theorem dL_law_862 : decode cL_law 862 = .ok (.iadd, 1) := by
  sorry
theorem dL_law_863 : decode cL_law 863 = .ok (.iaload, 1) := by
  sorry
theorem dL_law_864 : decode cL_law 864 = .ok (.aload_n 0, 1) := by
  sorry
theorem dL_law_865 : decode cL_law 865 = .ok (.iload_n 3, 1) := by
  sorry
theorem dL_law_866 : decode cL_law 866 = .ok (.iconst 3, 1) := by
  sorry
theorem dL_law_867 : decode cL_law 867 = .ok (.iadd, 1) := by
  sorry
theorem dL_law_868 : decode cL_law 868 = .ok (.iaload, 1) := by
  sorry
theorem dL_law_869 : decode cL_law 869 = .ok (.invokevirtual 108, 3) := by
  sorry
theorem dL_law_872 : decode cL_law 872 = .ok (.pop, 1) := by
  sorry
theorem dL_law_873 : decode cL_law 873 = .ok (.goto 742, 3) := by
  sorry
theorem dL_law_876 : decode cL_law 876 = .ok (.aload_n 1, 1) := by
  sorry
theorem dL_law_877 : decode cL_law 877 = .ok (.aload_n 0, 1) := by
  sorry
theorem dL_law_878 : decode cL_law 878 = .ok (.iload_n 3, 1) := by
  sorry
theorem dL_law_879 : decode cL_law 879 = .ok (.iconst 1, 1) := by
  sorry
theorem dL_law_880 : decode cL_law 880 = .ok (.iadd, 1) := by
  sorry
theorem dL_law_881 : decode cL_law 881 = .ok (.iaload, 1) := by
  sorry
theorem dL_law_882 : decode cL_law 882 = .ok (.aload_n 0, 1) := by
  sorry
theorem dL_law_883 : decode cL_law 883 = .ok (.iload_n 3, 1) := by
  sorry
theorem dL_law_884 : decode cL_law 884 = .ok (.iconst 2, 1) := by
  sorry
theorem dL_law_885 : decode cL_law 885 = .ok (.iadd, 1) := by
  sorry
theorem dL_law_886 : decode cL_law 886 = .ok (.iaload, 1) := by
  sorry
theorem dL_law_887 : decode cL_law 887 = .ok (.aload_n 0, 1) := by
  sorry
theorem dL_law_888 : decode cL_law 888 = .ok (.iload_n 3, 1) := by
  sorry
theorem dL_law_889 : decode cL_law 889 = .ok (.iconst 3, 1) := by
  sorry
theorem dL_law_890 : decode cL_law 890 = .ok (.iadd, 1) := by
  sorry
theorem dL_law_891 : decode cL_law 891 = .ok (.iaload, 1) := by
  sorry
theorem dL_law_892 : decode cL_law 892 = .ok (.invokevirtual 109, 3) := by
  sorry
theorem dL_law_895 : decode cL_law 895 = .ok (.pop, 1) := by
  sorry
theorem dL_law_896 : decode cL_law 896 = .ok (.aload_n 2, 1) := by
  sorry
theorem dL_law_897 : decode cL_law 897 = .ok (.aload_n 0, 1) := by
  sorry
theorem dL_law_898 : decode cL_law 898 = .ok (.iload_n 3, 1) := by
  sorry
theorem dL_law_899 : decode cL_law 899 = .ok (.iconst 1, 1) := by
  sorry
theorem dL_law_900 : decode cL_law 900 = .ok (.iadd, 1) := by
  sorry
theorem dL_law_901 : decode cL_law 901 = .ok (.iaload, 1) := by
  sorry
theorem dL_law_902 : decode cL_law 902 = .ok (.aload_n 0, 1) := by
  sorry
theorem dL_law_903 : decode cL_law 903 = .ok (.iload_n 3, 1) := by
  sorry
theorem dL_law_904 : decode cL_law 904 = .ok (.iconst 2, 1) := by
  sorry
theorem dL_law_905 : decode cL_law 905 = .ok (.iadd, 1) := by
  sorry
theorem dL_law_906 : decode cL_law 906 = .ok (.iaload, 1) := by
  sorry
theorem dL_law_907 : decode cL_law 907 = .ok (.aload_n 0, 1) := by
  sorry
theorem dL_law_908 : decode cL_law 908 = .ok (.iload_n 3, 1) := by
  sorry
theorem dL_law_909 : decode cL_law 909 = .ok (.iconst 3, 1) := by
  sorry
theorem dL_law_910 : decode cL_law 910 = .ok (.iadd, 1) := by
  sorry
theorem dL_law_911 : decode cL_law 911 = .ok (.iaload, 1) := by
  sorry
theorem dL_law_912 : decode cL_law 912 = .ok (.invokevirtual 112, 3) := by
  sorry
theorem dL_law_915 : decode cL_law 915 = .ok (.pop, 1) := by
  sorry
theorem dL_law_916 : decode cL_law 916 = .ok (.goto 699, 3) := by
  sorry
theorem dL_law_919 : decode cL_law 919 = .ok (.aload_n 1, 1) := by
  sorry
theorem dL_law_920 : decode cL_law 920 = .ok (.aload_n 0, 1) := by
  sorry
theorem dL_law_921 : decode cL_law 921 = .ok (.iload_n 3, 1) := by
  sorry
theorem dL_law_922 : decode cL_law 922 = .ok (.iconst 1, 1) := by
  sorry
theorem dL_law_923 : decode cL_law 923 = .ok (.iadd, 1) := by
  sorry
theorem dL_law_924 : decode cL_law 924 = .ok (.iaload, 1) := by
  sorry
theorem dL_law_925 : decode cL_law 925 = .ok (.aload_n 0, 1) := by
  sorry
theorem dL_law_926 : decode cL_law 926 = .ok (.iload_n 3, 1) := by
  sorry
theorem dL_law_927 : decode cL_law 927 = .ok (.iconst 2, 1) := by
  sorry
theorem dL_law_928 : decode cL_law 928 = .ok (.iadd, 1) := by
  sorry
theorem dL_law_929 : decode cL_law 929 = .ok (.iaload, 1) := by
  sorry
theorem dL_law_930 : decode cL_law 930 = .ok (.aload_n 0, 1) := by
  sorry
theorem dL_law_931 : decode cL_law 931 = .ok (.iload_n 3, 1) := by
  sorry
theorem dL_law_932 : decode cL_law 932 = .ok (.iconst 3, 1) := by
  sorry
theorem dL_law_933 : decode cL_law 933 = .ok (.iadd, 1) := by
  sorry
theorem dL_law_934 : decode cL_law 934 = .ok (.iaload, 1) := by
  sorry
theorem dL_law_935 : decode cL_law 935 = .ok (.aload_n 0, 1) := by
  sorry
theorem dL_law_936 : decode cL_law 936 = .ok (.iload_n 3, 1) := by
  sorry
theorem dL_law_937 : decode cL_law 937 = .ok (.iconst 4, 1) := by
  sorry
theorem dL_law_938 : decode cL_law 938 = .ok (.iadd, 1) := by
  sorry
theorem dL_law_939 : decode cL_law 939 = .ok (.iaload, 1) := by
  sorry
theorem dL_law_940 : decode cL_law 940 = .ok (.invokevirtual 113, 3) := by
  sorry
theorem dL_law_943 : decode cL_law 943 = .ok (.pop, 1) := by
  sorry
theorem dL_law_944 : decode cL_law 944 = .ok (.aload_n 2, 1) := by
  sorry
theorem dL_law_945 : decode cL_law 945 = .ok (.aload_n 0, 1) := by
  sorry
theorem dL_law_946 : decode cL_law 946 = .ok (.iload_n 3, 1) := by
  sorry
theorem dL_law_947 : decode cL_law 947 = .ok (.iconst 1, 1) := by
  sorry
theorem dL_law_948 : decode cL_law 948 = .ok (.iadd, 1) := by
  sorry
theorem dL_law_949 : decode cL_law 949 = .ok (.iaload, 1) := by
  sorry
theorem dL_law_950 : decode cL_law 950 = .ok (.aload_n 0, 1) := by
  sorry
theorem dL_law_951 : decode cL_law 951 = .ok (.iload_n 3, 1) := by
  sorry
theorem dL_law_952 : decode cL_law 952 = .ok (.iconst 2, 1) := by
  sorry
theorem dL_law_953 : decode cL_law 953 = .ok (.iadd, 1) := by
  sorry
theorem dL_law_954 : decode cL_law 954 = .ok (.iaload, 1) := by
  sorry
theorem dL_law_955 : decode cL_law 955 = .ok (.aload_n 0, 1) := by
  sorry
theorem dL_law_956 : decode cL_law 956 = .ok (.iload_n 3, 1) := by
  sorry
theorem dL_law_957 : decode cL_law 957 = .ok (.iconst 3, 1) := by
  sorry
theorem dL_law_958 : decode cL_law 958 = .ok (.iadd, 1) := by
  sorry
theorem dL_law_959 : decode cL_law 959 = .ok (.iaload, 1) := by
  sorry
theorem dL_law_960 : decode cL_law 960 = .ok (.aload_n 0, 1) := by
  sorry
theorem dL_law_961 : decode cL_law 961 = .ok (.iload_n 3, 1) := by
  sorry
theorem dL_law_962 : decode cL_law 962 = .ok (.iconst 4, 1) := by
  sorry
theorem dL_law_963 : decode cL_law 963 = .ok (.iadd, 1) := by
  sorry
theorem dL_law_964 : decode cL_law 964 = .ok (.iaload, 1) := by
  sorry
theorem dL_law_965 : decode cL_law 965 = .ok (.invokevirtual 116, 3) := by
  sorry
theorem dL_law_968 : decode cL_law 968 = .ok (.pop, 1) := by
  sorry
theorem dL_law_969 : decode cL_law 969 = .ok (.goto 646, 3) := by
  sorry
theorem dL_law_972 : decode cL_law 972 = .ok (.aload_n 1, 1) := by
  sorry
theorem dL_law_973 : decode cL_law 973 = .ok (.aload_n 0, 1) := by
  sorry
theorem dL_law_974 : decode cL_law 974 = .ok (.iload_n 3, 1) := by
  sorry
theorem dL_law_975 : decode cL_law 975 = .ok (.iconst 1, 1) := by
  sorry
theorem dL_law_976 : decode cL_law 976 = .ok (.iadd, 1) := by
  sorry
theorem dL_law_977 : decode cL_law 977 = .ok (.iaload, 1) := by
  sorry
theorem dL_law_978 : decode cL_law 978 = .ok (.invokevirtual 117, 3) := by
  sorry
theorem dL_law_981 : decode cL_law 981 = .ok (.pop2, 1) := by
  sorry
theorem dL_law_982 : decode cL_law 982 = .ok (.aload_n 2, 1) := by
  sorry
theorem dL_law_983 : decode cL_law 983 = .ok (.aload_n 0, 1) := by
  sorry
theorem dL_law_984 : decode cL_law 984 = .ok (.iload_n 3, 1) := by
  sorry
theorem dL_law_985 : decode cL_law 985 = .ok (.iconst 1, 1) := by
  sorry
theorem dL_law_986 : decode cL_law 986 = .ok (.iadd, 1) := by
  sorry
theorem dL_law_987 : decode cL_law 987 = .ok (.iaload, 1) := by
  sorry
theorem dL_law_988 : decode cL_law 988 = .ok (.invokevirtual 120, 3) := by
  sorry
theorem dL_law_991 : decode cL_law 991 = .ok (.pop2, 1) := by
  sorry
theorem dL_law_992 : decode cL_law 992 = .ok (.goto 623, 3) := by
  sorry
theorem dL_law_995 : decode cL_law 995 = .ok (.aload_n 1, 1) := by
  sorry
theorem dL_law_996 : decode cL_law 996 = .ok (.aload_n 0, 1) := by
  sorry
theorem dL_law_997 : decode cL_law 997 = .ok (.iload_n 3, 1) := by
  sorry
theorem dL_law_998 : decode cL_law 998 = .ok (.iconst 1, 1) := by
  sorry
theorem dL_law_999 : decode cL_law 999 = .ok (.iadd, 1) := by
  sorry
theorem dL_law_1000 : decode cL_law 1000 = .ok (.iaload, 1) := by
  sorry
theorem dL_law_1001 : decode cL_law 1001 = .ok (.aload_n 0, 1) := by
  sorry
theorem dL_law_1002 : decode cL_law 1002 = .ok (.iload_n 3, 1) := by
  sorry
theorem dL_law_1003 : decode cL_law 1003 = .ok (.iconst 2, 1) := by
  sorry
theorem dL_law_1004 : decode cL_law 1004 = .ok (.iadd, 1) := by
  sorry
theorem dL_law_1005 : decode cL_law 1005 = .ok (.iaload, 1) := by
  sorry
theorem dL_law_1006 : decode cL_law 1006 = .ok (.invokevirtual 121, 3) := by
  sorry
theorem dL_law_1009 : decode cL_law 1009 = .ok (.pop2, 1) := by
  sorry
theorem dL_law_1010 : decode cL_law 1010 = .ok (.aload_n 2, 1) := by
  sorry
theorem dL_law_1011 : decode cL_law 1011 = .ok (.aload_n 0, 1) := by
  sorry
theorem dL_law_1012 : decode cL_law 1012 = .ok (.iload_n 3, 1) := by
  sorry
theorem dL_law_1013 : decode cL_law 1013 = .ok (.iconst 1, 1) := by
  sorry
theorem dL_law_1014 : decode cL_law 1014 = .ok (.iadd, 1) := by
  sorry
theorem dL_law_1015 : decode cL_law 1015 = .ok (.iaload, 1) := by
  sorry
theorem dL_law_1016 : decode cL_law 1016 = .ok (.aload_n 0, 1) := by
  sorry
theorem dL_law_1017 : decode cL_law 1017 = .ok (.iload_n 3, 1) := by
  sorry
theorem dL_law_1018 : decode cL_law 1018 = .ok (.iconst 2, 1) := by
  sorry
theorem dL_law_1019 : decode cL_law 1019 = .ok (.iadd, 1) := by
  sorry
theorem dL_law_1020 : decode cL_law 1020 = .ok (.iaload, 1) := by
  sorry
theorem dL_law_1021 : decode cL_law 1021 = .ok (.invokevirtual 125, 3) := by
  sorry
theorem dL_law_1024 : decode cL_law 1024 = .ok (.pop2, 1) := by
  sorry
theorem dL_law_1025 : decode cL_law 1025 = .ok (.goto 590, 3) := by
  sorry
theorem dL_law_1028 : decode cL_law 1028 = .ok (.aload_n 1, 1) := by
  sorry
theorem dL_law_1029 : decode cL_law 1029 = .ok (.aload_n 0, 1) := by
  sorry
theorem dL_law_1030 : decode cL_law 1030 = .ok (.iload_n 3, 1) := by
  sorry
theorem dL_law_1031 : decode cL_law 1031 = .ok (.iconst 1, 1) := by
  sorry
theorem dL_law_1032 : decode cL_law 1032 = .ok (.iadd, 1) := by
  sorry
theorem dL_law_1033 : decode cL_law 1033 = .ok (.iaload, 1) := by
  sorry
theorem dL_law_1034 : decode cL_law 1034 = .ok (.invokevirtual 126, 3) := by
  sorry
theorem dL_law_1037 : decode cL_law 1037 = .ok (.pop2, 1) := by
  sorry
theorem dL_law_1038 : decode cL_law 1038 = .ok (.aload_n 2, 1) := by
  sorry
theorem dL_law_1039 : decode cL_law 1039 = .ok (.aload_n 0, 1) := by
  sorry
theorem dL_law_1040 : decode cL_law 1040 = .ok (.iload_n 3, 1) := by
  sorry
theorem dL_law_1041 : decode cL_law 1041 = .ok (.iconst 1, 1) := by
  sorry
theorem dL_law_1042 : decode cL_law 1042 = .ok (.iadd, 1) := by
  sorry
theorem dL_law_1043 : decode cL_law 1043 = .ok (.iaload, 1) := by
  sorry
theorem dL_law_1044 : decode cL_law 1044 = .ok (.invokevirtual 129, 3) := by
  sorry
theorem dL_law_1047 : decode cL_law 1047 = .ok (.pop2, 1) := by
  sorry
theorem dL_law_1048 : decode cL_law 1048 = .ok (.goto 567, 3) := by
  sorry
theorem dL_law_1051 : decode cL_law 1051 = .ok (.aload_n 1, 1) := by
  sorry
theorem dL_law_1052 : decode cL_law 1052 = .ok (.aload_n 0, 1) := by
  sorry
theorem dL_law_1053 : decode cL_law 1053 = .ok (.iload_n 3, 1) := by
  sorry
theorem dL_law_1054 : decode cL_law 1054 = .ok (.iconst 1, 1) := by
  sorry
theorem dL_law_1055 : decode cL_law 1055 = .ok (.iadd, 1) := by
  sorry
theorem dL_law_1056 : decode cL_law 1056 = .ok (.iaload, 1) := by
  sorry
theorem dL_law_1057 : decode cL_law 1057 = .ok (.invokevirtual 130, 3) := by
  sorry
theorem dL_law_1060 : decode cL_law 1060 = .ok (.pop, 1) := by
  sorry
theorem dL_law_1061 : decode cL_law 1061 = .ok (.aload_n 2, 1) := by
  sorry
theorem dL_law_1062 : decode cL_law 1062 = .ok (.aload_n 0, 1) := by
  sorry
theorem dL_law_1063 : decode cL_law 1063 = .ok (.iload_n 3, 1) := by
  sorry
theorem dL_law_1064 : decode cL_law 1064 = .ok (.iconst 1, 1) := by
  sorry
theorem dL_law_1065 : decode cL_law 1065 = .ok (.iadd, 1) := by
  sorry
theorem dL_law_1066 : decode cL_law 1066 = .ok (.iaload, 1) := by
  sorry
theorem dL_law_1067 : decode cL_law 1067 = .ok (.invokevirtual 133, 3) := by
  sorry
theorem dL_law_1070 : decode cL_law 1070 = .ok (.pop, 1) := by
  sorry
theorem dL_law_1071 : decode cL_law 1071 = .ok (.goto 544, 3) := by
  sorry
theorem dL_law_1074 : decode cL_law 1074 = .ok (.aload_n 1, 1) := by
  sorry
theorem dL_law_1075 : decode cL_law 1075 = .ok (.aload_n 0, 1) := by
  sorry
theorem dL_law_1076 : decode cL_law 1076 = .ok (.iload_n 3, 1) := by
  sorry
theorem dL_law_1077 : decode cL_law 1077 = .ok (.iconst 1, 1) := by
  sorry
theorem dL_law_1078 : decode cL_law 1078 = .ok (.iadd, 1) := by
  sorry
theorem dL_law_1079 : decode cL_law 1079 = .ok (.iaload, 1) := by
  sorry
theorem dL_law_1080 : decode cL_law 1080 = .ok (.ifCond .eq 7, 3) := by
  sorry
theorem dL_law_1083 : decode cL_law 1083 = .ok (.iconst 1, 1) := by
  sorry
theorem dL_law_1084 : decode cL_law 1084 = .ok (.goto 4, 3) := by
  sorry
theorem dL_law_1087 : decode cL_law 1087 = .ok (.iconst 0, 1) := by
  sorry
theorem dL_law_1088 : decode cL_law 1088 = .ok (.invokevirtual 134, 3) := by
  sorry
theorem dL_law_1091 : decode cL_law 1091 = .ok (.pop2, 1) := by
  sorry
theorem dL_law_1092 : decode cL_law 1092 = .ok (.aload_n 2, 1) := by
  sorry
theorem dL_law_1093 : decode cL_law 1093 = .ok (.aload_n 0, 1) := by
  sorry
theorem dL_law_1094 : decode cL_law 1094 = .ok (.iload_n 3, 1) := by
  sorry
theorem dL_law_1095 : decode cL_law 1095 = .ok (.iconst 1, 1) := by
  sorry
theorem dL_law_1096 : decode cL_law 1096 = .ok (.iadd, 1) := by
  sorry
theorem dL_law_1097 : decode cL_law 1097 = .ok (.iaload, 1) := by
  sorry
theorem dL_law_1098 : decode cL_law 1098 = .ok (.ifCond .eq 7, 3) := by
  sorry
theorem dL_law_1101 : decode cL_law 1101 = .ok (.iconst 1, 1) := by
  sorry
theorem dL_law_1102 : decode cL_law 1102 = .ok (.goto 4, 3) := by
  sorry
theorem dL_law_1105 : decode cL_law 1105 = .ok (.iconst 0, 1) := by
  sorry
theorem dL_law_1106 : decode cL_law 1106 = .ok (.invokevirtual 138, 3) := by
  sorry
theorem dL_law_1109 : decode cL_law 1109 = .ok (.pop2, 1) := by
  sorry
theorem dL_law_1110 : decode cL_law 1110 = .ok (.goto 505, 3) := by
  sorry
theorem dL_law_1113 : decode cL_law 1113 = .ok (.aload_n 1, 1) := by
  sorry
theorem dL_law_1114 : decode cL_law 1114 = .ok (.aload_n 0, 1) := by
  sorry
theorem dL_law_1115 : decode cL_law 1115 = .ok (.iload_n 3, 1) := by
  sorry
theorem dL_law_1116 : decode cL_law 1116 = .ok (.iconst 1, 1) := by
  sorry
theorem dL_law_1117 : decode cL_law 1117 = .ok (.iadd, 1) := by
  sorry
theorem dL_law_1118 : decode cL_law 1118 = .ok (.iaload, 1) := by
  sorry
theorem dL_law_1119 : decode cL_law 1119 = .ok (.aload_n 0, 1) := by
  sorry
theorem dL_law_1120 : decode cL_law 1120 = .ok (.iload_n 3, 1) := by
  sorry
theorem dL_law_1121 : decode cL_law 1121 = .ok (.iconst 2, 1) := by
  sorry
theorem dL_law_1122 : decode cL_law 1122 = .ok (.iadd, 1) := by
  sorry
theorem dL_law_1123 : decode cL_law 1123 = .ok (.iaload, 1) := by
  sorry
theorem dL_law_1124 : decode cL_law 1124 = .ok (.invokevirtual 139, 3) := by
  sorry
theorem dL_law_1127 : decode cL_law 1127 = .ok (.pop2, 1) := by
  sorry
theorem dL_law_1128 : decode cL_law 1128 = .ok (.aload_n 2, 1) := by
  sorry
theorem dL_law_1129 : decode cL_law 1129 = .ok (.aload_n 0, 1) := by
  sorry
theorem dL_law_1130 : decode cL_law 1130 = .ok (.iload_n 3, 1) := by
  sorry
theorem dL_law_1131 : decode cL_law 1131 = .ok (.iconst 1, 1) := by
  sorry
theorem dL_law_1132 : decode cL_law 1132 = .ok (.iadd, 1) := by
  sorry
theorem dL_law_1133 : decode cL_law 1133 = .ok (.iaload, 1) := by
  sorry
theorem dL_law_1134 : decode cL_law 1134 = .ok (.aload_n 0, 1) := by
  sorry
theorem dL_law_1135 : decode cL_law 1135 = .ok (.iload_n 3, 1) := by
  sorry
theorem dL_law_1136 : decode cL_law 1136 = .ok (.iconst 2, 1) := by
  sorry
theorem dL_law_1137 : decode cL_law 1137 = .ok (.iadd, 1) := by
  sorry
theorem dL_law_1138 : decode cL_law 1138 = .ok (.iaload, 1) := by
  sorry
theorem dL_law_1139 : decode cL_law 1139 = .ok (.invokevirtual 142, 3) := by
  sorry
theorem dL_law_1142 : decode cL_law 1142 = .ok (.pop2, 1) := by
  sorry
theorem dL_law_1143 : decode cL_law 1143 = .ok (.goto 472, 3) := by
  sorry
theorem dL_law_1146 : decode cL_law 1146 = .ok (.aload_n 1, 1) := by
  sorry
theorem dL_law_1147 : decode cL_law 1147 = .ok (.aload_n 0, 1) := by
  sorry
theorem dL_law_1148 : decode cL_law 1148 = .ok (.iload_n 3, 1) := by
  sorry
theorem dL_law_1149 : decode cL_law 1149 = .ok (.iconst 1, 1) := by
  sorry
theorem dL_law_1150 : decode cL_law 1150 = .ok (.iadd, 1) := by
  sorry
theorem dL_law_1151 : decode cL_law 1151 = .ok (.iaload, 1) := by
  sorry
theorem dL_law_1152 : decode cL_law 1152 = .ok (.invokevirtual 143, 3) := by
  sorry
theorem dL_law_1155 : decode cL_law 1155 = .ok (.pop, 1) := by
  sorry
theorem dL_law_1156 : decode cL_law 1156 = .ok (.aload_n 2, 1) := by
  sorry
theorem dL_law_1157 : decode cL_law 1157 = .ok (.aload_n 0, 1) := by
  sorry
theorem dL_law_1158 : decode cL_law 1158 = .ok (.iload_n 3, 1) := by
  sorry
theorem dL_law_1159 : decode cL_law 1159 = .ok (.iconst 1, 1) := by
  sorry
theorem dL_law_1160 : decode cL_law 1160 = .ok (.iadd, 1) := by
  sorry
theorem dL_law_1161 : decode cL_law 1161 = .ok (.iaload, 1) := by
  sorry
theorem dL_law_1162 : decode cL_law 1162 = .ok (.invokevirtual 146, 3) := by
  sorry
theorem dL_law_1165 : decode cL_law 1165 = .ok (.pop, 1) := by
  sorry
theorem dL_law_1166 : decode cL_law 1166 = .ok (.goto 449, 3) := by
  sorry
theorem dL_law_1169 : decode cL_law 1169 = .ok (.aload_n 1, 1) := by
  sorry
theorem dL_law_1170 : decode cL_law 1170 = .ok (.aload_n 0, 1) := by
  sorry
theorem dL_law_1171 : decode cL_law 1171 = .ok (.iload_n 3, 1) := by
  sorry
theorem dL_law_1172 : decode cL_law 1172 = .ok (.iconst 1, 1) := by
  sorry
theorem dL_law_1173 : decode cL_law 1173 = .ok (.iadd, 1) := by
  sorry
theorem dL_law_1174 : decode cL_law 1174 = .ok (.iaload, 1) := by
  sorry
theorem dL_law_1175 : decode cL_law 1175 = .ok (.aload_n 0, 1) := by
  sorry
theorem dL_law_1176 : decode cL_law 1176 = .ok (.iload_n 3, 1) := by
  sorry
theorem dL_law_1177 : decode cL_law 1177 = .ok (.iconst 2, 1) := by
  sorry
theorem dL_law_1178 : decode cL_law 1178 = .ok (.iadd, 1) := by
  sorry
theorem dL_law_1179 : decode cL_law 1179 = .ok (.iaload, 1) := by
  sorry
theorem dL_law_1180 : decode cL_law 1180 = .ok (.invokevirtual 147, 3) := by
  sorry
theorem dL_law_1183 : decode cL_law 1183 = .ok (.pop, 1) := by
  sorry
theorem dL_law_1184 : decode cL_law 1184 = .ok (.aload_n 2, 1) := by
  sorry
theorem dL_law_1185 : decode cL_law 1185 = .ok (.aload_n 0, 1) := by
  sorry
theorem dL_law_1186 : decode cL_law 1186 = .ok (.iload_n 3, 1) := by
  sorry
theorem dL_law_1187 : decode cL_law 1187 = .ok (.iconst 1, 1) := by
  sorry
theorem dL_law_1188 : decode cL_law 1188 = .ok (.iadd, 1) := by
  sorry
theorem dL_law_1189 : decode cL_law 1189 = .ok (.iaload, 1) := by
  sorry
theorem dL_law_1190 : decode cL_law 1190 = .ok (.aload_n 0, 1) := by
  sorry
theorem dL_law_1191 : decode cL_law 1191 = .ok (.iload_n 3, 1) := by
  sorry
theorem dL_law_1192 : decode cL_law 1192 = .ok (.iconst 2, 1) := by
  sorry
theorem dL_law_1193 : decode cL_law 1193 = .ok (.iadd, 1) := by
  sorry
theorem dL_law_1194 : decode cL_law 1194 = .ok (.iaload, 1) := by
  sorry
theorem dL_law_1195 : decode cL_law 1195 = .ok (.invokevirtual 150, 3) := by
  sorry
theorem dL_law_1198 : decode cL_law 1198 = .ok (.pop, 1) := by
  sorry
theorem dL_law_1199 : decode cL_law 1199 = .ok (.goto 416, 3) := by
  sorry
theorem dL_law_1202 : decode cL_law 1202 = .ok (.aload_n 1, 1) := by
  sorry
theorem dL_law_1203 : decode cL_law 1203 = .ok (.aload_n 0, 1) := by
  sorry
theorem dL_law_1204 : decode cL_law 1204 = .ok (.iload_n 3, 1) := by
  sorry
theorem dL_law_1205 : decode cL_law 1205 = .ok (.iconst 1, 1) := by
  sorry
theorem dL_law_1206 : decode cL_law 1206 = .ok (.iadd, 1) := by
  sorry
theorem dL_law_1207 : decode cL_law 1207 = .ok (.iaload, 1) := by
  sorry
theorem dL_law_1208 : decode cL_law 1208 = .ok (.aload_n 0, 1) := by
  sorry
theorem dL_law_1209 : decode cL_law 1209 = .ok (.iload_n 3, 1) := by
  sorry
theorem dL_law_1210 : decode cL_law 1210 = .ok (.iconst 2, 1) := by
  sorry
theorem dL_law_1211 : decode cL_law 1211 = .ok (.iadd, 1) := by
  sorry
theorem dL_law_1212 : decode cL_law 1212 = .ok (.iaload, 1) := by
  sorry
theorem dL_law_1213 : decode cL_law 1213 = .ok (.invokevirtual 151, 3) := by
  sorry
theorem dL_law_1216 : decode cL_law 1216 = .ok (.pop, 1) := by
  sorry
theorem dL_law_1217 : decode cL_law 1217 = .ok (.aload_n 2, 1) := by
  sorry
theorem dL_law_1218 : decode cL_law 1218 = .ok (.aload_n 0, 1) := by
  sorry
theorem dL_law_1219 : decode cL_law 1219 = .ok (.iload_n 3, 1) := by
  sorry
theorem dL_law_1220 : decode cL_law 1220 = .ok (.iconst 1, 1) := by
  sorry
theorem dL_law_1221 : decode cL_law 1221 = .ok (.iadd, 1) := by
  sorry
theorem dL_law_1222 : decode cL_law 1222 = .ok (.iaload, 1) := by
  sorry
theorem dL_law_1223 : decode cL_law 1223 = .ok (.aload_n 0, 1) := by
  sorry
theorem dL_law_1224 : decode cL_law 1224 = .ok (.iload_n 3, 1) := by
  sorry
theorem dL_law_1225 : decode cL_law 1225 = .ok (.iconst 2, 1) := by
  sorry
theorem dL_law_1226 : decode cL_law 1226 = .ok (.iadd, 1) := by
  sorry
theorem dL_law_1227 : decode cL_law 1227 = .ok (.iaload, 1) := by
  sorry
theorem dL_law_1228 : decode cL_law 1228 = .ok (.invokevirtual 154, 3) := by
  sorry
theorem dL_law_1231 : decode cL_law 1231 = .ok (.pop, 1) := by
  sorry
theorem dL_law_1232 : decode cL_law 1232 = .ok (.goto 383, 3) := by
  sorry
theorem dL_law_1235 : decode cL_law 1235 = .ok (.aload_n 1, 1) := by
  sorry
theorem dL_law_1236 : decode cL_law 1236 = .ok (.aload_n 0, 1) := by
  sorry
theorem dL_law_1237 : decode cL_law 1237 = .ok (.iload_n 3, 1) := by
  sorry
theorem dL_law_1238 : decode cL_law 1238 = .ok (.iconst 1, 1) := by
  sorry
theorem dL_law_1239 : decode cL_law 1239 = .ok (.iadd, 1) := by
  sorry
theorem dL_law_1240 : decode cL_law 1240 = .ok (.iaload, 1) := by
  sorry
theorem dL_law_1241 : decode cL_law 1241 = .ok (.aload_n 0, 1) := by
  sorry
theorem dL_law_1242 : decode cL_law 1242 = .ok (.iload_n 3, 1) := by
  sorry
theorem dL_law_1243 : decode cL_law 1243 = .ok (.iconst 2, 1) := by
  sorry
theorem dL_law_1244 : decode cL_law 1244 = .ok (.iadd, 1) := by
  sorry
theorem dL_law_1245 : decode cL_law 1245 = .ok (.iaload, 1) := by
  sorry
theorem dL_law_1246 : decode cL_law 1246 = .ok (.aload_n 0, 1) := by
  sorry
theorem dL_law_1247 : decode cL_law 1247 = .ok (.iload_n 3, 1) := by
  sorry
theorem dL_law_1248 : decode cL_law 1248 = .ok (.iconst 3, 1) := by
  sorry
theorem dL_law_1249 : decode cL_law 1249 = .ok (.iadd, 1) := by
  sorry
theorem dL_law_1250 : decode cL_law 1250 = .ok (.iaload, 1) := by
  sorry
theorem dL_law_1251 : decode cL_law 1251 = .ok (.aload_n 0, 1) := by
  sorry
theorem dL_law_1252 : decode cL_law 1252 = .ok (.iload_n 3, 1) := by
  sorry
theorem dL_law_1253 : decode cL_law 1253 = .ok (.iconst 4, 1) := by
  sorry
theorem dL_law_1254 : decode cL_law 1254 = .ok (.iadd, 1) := by
  sorry
theorem dL_law_1255 : decode cL_law 1255 = .ok (.iaload, 1) := by
  sorry
theorem dL_law_1256 : decode cL_law 1256 = .ok (.aload_n 0, 1) := by
  sorry
theorem dL_law_1257 : decode cL_law 1257 = .ok (.iload_n 3, 1) := by
  sorry
theorem dL_law_1258 : decode cL_law 1258 = .ok (.iconst 5, 1) := by
  sorry
theorem dL_law_1259 : decode cL_law 1259 = .ok (.iadd, 1) := by
  sorry
theorem dL_law_1260 : decode cL_law 1260 = .ok (.iaload, 1) := by
  sorry
theorem dL_law_1261 : decode cL_law 1261 = .ok (.invokevirtual 155, 3) := by
  sorry
theorem dL_law_1264 : decode cL_law 1264 = .ok (.pop, 1) := by
  sorry
theorem dL_law_1265 : decode cL_law 1265 = .ok (.aload_n 2, 1) := by
  sorry
theorem dL_law_1266 : decode cL_law 1266 = .ok (.aload_n 0, 1) := by
  sorry
theorem dL_law_1267 : decode cL_law 1267 = .ok (.iload_n 3, 1) := by
  sorry
theorem dL_law_1268 : decode cL_law 1268 = .ok (.iconst 1, 1) := by
  sorry
theorem dL_law_1269 : decode cL_law 1269 = .ok (.iadd, 1) := by
  sorry
theorem dL_law_1270 : decode cL_law 1270 = .ok (.iaload, 1) := by
  sorry
theorem dL_law_1271 : decode cL_law 1271 = .ok (.aload_n 0, 1) := by
  sorry
theorem dL_law_1272 : decode cL_law 1272 = .ok (.iload_n 3, 1) := by
  sorry
theorem dL_law_1273 : decode cL_law 1273 = .ok (.iconst 2, 1) := by
  sorry
theorem dL_law_1274 : decode cL_law 1274 = .ok (.iadd, 1) := by
  sorry
theorem dL_law_1275 : decode cL_law 1275 = .ok (.iaload, 1) := by
  sorry
theorem dL_law_1276 : decode cL_law 1276 = .ok (.aload_n 0, 1) := by
  sorry
theorem dL_law_1277 : decode cL_law 1277 = .ok (.iload_n 3, 1) := by
  sorry
theorem dL_law_1278 : decode cL_law 1278 = .ok (.iconst 3, 1) := by
  sorry
theorem dL_law_1279 : decode cL_law 1279 = .ok (.iadd, 1) := by
  sorry
theorem dL_law_1280 : decode cL_law 1280 = .ok (.iaload, 1) := by
  sorry
theorem dL_law_1281 : decode cL_law 1281 = .ok (.aload_n 0, 1) := by
  sorry
theorem dL_law_1282 : decode cL_law 1282 = .ok (.iload_n 3, 1) := by
  sorry
theorem dL_law_1283 : decode cL_law 1283 = .ok (.iconst 4, 1) := by
  sorry
theorem dL_law_1284 : decode cL_law 1284 = .ok (.iadd, 1) := by
  sorry
theorem dL_law_1285 : decode cL_law 1285 = .ok (.iaload, 1) := by
  sorry
theorem dL_law_1286 : decode cL_law 1286 = .ok (.aload_n 0, 1) := by
  sorry
theorem dL_law_1287 : decode cL_law 1287 = .ok (.iload_n 3, 1) := by
  sorry
theorem dL_law_1288 : decode cL_law 1288 = .ok (.iconst 5, 1) := by
  sorry
theorem dL_law_1289 : decode cL_law 1289 = .ok (.iadd, 1) := by
  sorry
theorem dL_law_1290 : decode cL_law 1290 = .ok (.iaload, 1) := by
  sorry
theorem dL_law_1291 : decode cL_law 1291 = .ok (.invokevirtual 158, 3) := by
  sorry
theorem dL_law_1294 : decode cL_law 1294 = .ok (.pop, 1) := by
  sorry
theorem dL_law_1295 : decode cL_law 1295 = .ok (.goto 320, 3) := by
  sorry
theorem dL_law_1298 : decode cL_law 1298 = .ok (.aload_n 1, 1) := by
  sorry
theorem dL_law_1299 : decode cL_law 1299 = .ok (.aload_n 0, 1) := by
  sorry
theorem dL_law_1300 : decode cL_law 1300 = .ok (.iload_n 3, 1) := by
  sorry
theorem dL_law_1301 : decode cL_law 1301 = .ok (.iconst 1, 1) := by
  sorry
theorem dL_law_1302 : decode cL_law 1302 = .ok (.iadd, 1) := by
  sorry
theorem dL_law_1303 : decode cL_law 1303 = .ok (.iaload, 1) := by
  sorry
theorem dL_law_1304 : decode cL_law 1304 = .ok (.invokevirtual 159, 3) := by
  sorry
theorem dL_law_1307 : decode cL_law 1307 = .ok (.pop, 1) := by
  sorry
theorem dL_law_1308 : decode cL_law 1308 = .ok (.aload_n 2, 1) := by
  sorry
theorem dL_law_1309 : decode cL_law 1309 = .ok (.aload_n 0, 1) := by
  sorry
theorem dL_law_1310 : decode cL_law 1310 = .ok (.iload_n 3, 1) := by
  sorry
theorem dL_law_1311 : decode cL_law 1311 = .ok (.iconst 1, 1) := by
  sorry
theorem dL_law_1312 : decode cL_law 1312 = .ok (.iadd, 1) := by
  sorry
theorem dL_law_1313 : decode cL_law 1313 = .ok (.iaload, 1) := by
  sorry
theorem dL_law_1314 : decode cL_law 1314 = .ok (.invokevirtual 162, 3) := by
  sorry
theorem dL_law_1317 : decode cL_law 1317 = .ok (.pop, 1) := by
  sorry
theorem dL_law_1318 : decode cL_law 1318 = .ok (.goto 297, 3) := by
  sorry
theorem dL_law_1321 : decode cL_law 1321 = .ok (.aload_n 1, 1) := by
  sorry
theorem dL_law_1322 : decode cL_law 1322 = .ok (.aload_n 0, 1) := by
  sorry
theorem dL_law_1323 : decode cL_law 1323 = .ok (.iload_n 3, 1) := by
  sorry
theorem dL_law_1324 : decode cL_law 1324 = .ok (.iconst 1, 1) := by
  sorry
theorem dL_law_1325 : decode cL_law 1325 = .ok (.iadd, 1) := by
  sorry
theorem dL_law_1326 : decode cL_law 1326 = .ok (.iaload, 1) := by
  sorry
theorem dL_law_1327 : decode cL_law 1327 = .ok (.invokevirtual 163, 3) := by
  sorry
theorem dL_law_1330 : decode cL_law 1330 = .ok (.pop, 1) := by
  sorry
theorem dL_law_1331 : decode cL_law 1331 = .ok (.aload_n 2, 1) := by
  sorry
theorem dL_law_1332 : decode cL_law 1332 = .ok (.aload_n 0, 1) := by
  sorry
theorem dL_law_1333 : decode cL_law 1333 = .ok (.iload_n 3, 1) := by
  sorry
theorem dL_law_1334 : decode cL_law 1334 = .ok (.iconst 1, 1) := by
  sorry
theorem dL_law_1335 : decode cL_law 1335 = .ok (.iadd, 1) := by
  sorry
theorem dL_law_1336 : decode cL_law 1336 = .ok (.iaload, 1) := by
  sorry
theorem dL_law_1337 : decode cL_law 1337 = .ok (.invokevirtual 166, 3) := by
  sorry
theorem dL_law_1340 : decode cL_law 1340 = .ok (.pop, 1) := by
  sorry
theorem dL_law_1341 : decode cL_law 1341 = .ok (.goto 274, 3) := by
  sorry
theorem dL_law_1344 : decode cL_law 1344 = .ok (.aload_n 1, 1) := by
  sorry
theorem dL_law_1345 : decode cL_law 1345 = .ok (.aload_n 0, 1) := by
  sorry
theorem dL_law_1346 : decode cL_law 1346 = .ok (.iload_n 3, 1) := by
  sorry
theorem dL_law_1347 : decode cL_law 1347 = .ok (.iconst 1, 1) := by
  sorry
theorem dL_law_1348 : decode cL_law 1348 = .ok (.iadd, 1) := by
  sorry
theorem dL_law_1349 : decode cL_law 1349 = .ok (.iaload, 1) := by
  sorry
theorem dL_law_1350 : decode cL_law 1350 = .ok (.invokevirtual 167, 3) := by
  sorry
theorem dL_law_1353 : decode cL_law 1353 = .ok (.pop, 1) := by
  sorry
theorem dL_law_1354 : decode cL_law 1354 = .ok (.aload_n 2, 1) := by
  sorry
theorem dL_law_1355 : decode cL_law 1355 = .ok (.aload_n 0, 1) := by
  sorry
theorem dL_law_1356 : decode cL_law 1356 = .ok (.iload_n 3, 1) := by
  sorry
theorem dL_law_1357 : decode cL_law 1357 = .ok (.iconst 1, 1) := by
  sorry
theorem dL_law_1358 : decode cL_law 1358 = .ok (.iadd, 1) := by
  sorry
theorem dL_law_1359 : decode cL_law 1359 = .ok (.iaload, 1) := by
  sorry
theorem dL_law_1360 : decode cL_law 1360 = .ok (.invokevirtual 170, 3) := by
  sorry
theorem dL_law_1363 : decode cL_law 1363 = .ok (.pop, 1) := by
  sorry
theorem dL_law_1364 : decode cL_law 1364 = .ok (.goto 251, 3) := by
  sorry
theorem dL_law_1367 : decode cL_law 1367 = .ok (.aload_n 1, 1) := by
  sorry
theorem dL_law_1368 : decode cL_law 1368 = .ok (.aload_n 0, 1) := by
  sorry
theorem dL_law_1369 : decode cL_law 1369 = .ok (.iload_n 3, 1) := by
  sorry
theorem dL_law_1370 : decode cL_law 1370 = .ok (.iconst 1, 1) := by
  sorry
theorem dL_law_1371 : decode cL_law 1371 = .ok (.iadd, 1) := by
  sorry
theorem dL_law_1372 : decode cL_law 1372 = .ok (.iaload, 1) := by
  sorry
theorem dL_law_1373 : decode cL_law 1373 = .ok (.invokevirtual 171, 3) := by
  sorry
theorem dL_law_1376 : decode cL_law 1376 = .ok (.pop, 1) := by
  sorry
theorem dL_law_1377 : decode cL_law 1377 = .ok (.aload_n 2, 1) := by
  sorry
theorem dL_law_1378 : decode cL_law 1378 = .ok (.aload_n 0, 1) := by
  sorry
theorem dL_law_1379 : decode cL_law 1379 = .ok (.iload_n 3, 1) := by
  sorry
theorem dL_law_1380 : decode cL_law 1380 = .ok (.iconst 1, 1) := by
  sorry
theorem dL_law_1381 : decode cL_law 1381 = .ok (.iadd, 1) := by
  sorry
theorem dL_law_1382 : decode cL_law 1382 = .ok (.iaload, 1) := by
  sorry
theorem dL_law_1383 : decode cL_law 1383 = .ok (.invokevirtual 174, 3) := by
  sorry
theorem dL_law_1386 : decode cL_law 1386 = .ok (.pop, 1) := by
  sorry
theorem dL_law_1387 : decode cL_law 1387 = .ok (.goto 228, 3) := by
  sorry
theorem dL_law_1390 : decode cL_law 1390 = .ok (.aload_n 1, 1) := by
  sorry
theorem dL_law_1391 : decode cL_law 1391 = .ok (.aload_n 0, 1) := by
  sorry
theorem dL_law_1392 : decode cL_law 1392 = .ok (.iload_n 3, 1) := by
  sorry
theorem dL_law_1393 : decode cL_law 1393 = .ok (.iconst 1, 1) := by
  sorry
theorem dL_law_1394 : decode cL_law 1394 = .ok (.iadd, 1) := by
  sorry
theorem dL_law_1395 : decode cL_law 1395 = .ok (.iaload, 1) := by
  sorry
theorem dL_law_1396 : decode cL_law 1396 = .ok (.invokevirtual 175, 3) := by
  sorry
theorem dL_law_1399 : decode cL_law 1399 = .ok (.aload_n 2, 1) := by
  sorry
theorem dL_law_1400 : decode cL_law 1400 = .ok (.aload_n 0, 1) := by
  sorry
theorem dL_law_1401 : decode cL_law 1401 = .ok (.iload_n 3, 1) := by
  sorry
theorem dL_law_1402 : decode cL_law 1402 = .ok (.iconst 1, 1) := by
  sorry
theorem dL_law_1403 : decode cL_law 1403 = .ok (.iadd, 1) := by
  sorry
theorem dL_law_1404 : decode cL_law 1404 = .ok (.iaload, 1) := by
  sorry
theorem dL_law_1405 : decode cL_law 1405 = .ok (.invokevirtual 178, 3) := by
  sorry
theorem dL_law_1408 : decode cL_law 1408 = .ok (.if_icmp .eq 207, 3) := by
  sorry
theorem dL_law_1413 : decode cL_law 1413 = .ok (.aload_n 1, 1) := by
  sorry
theorem dL_law_1414 : decode cL_law 1414 = .ok (.aload_n 0, 1) := by
  sorry
theorem dL_law_1415 : decode cL_law 1415 = .ok (.iload_n 3, 1) := by
  sorry
theorem dL_law_1416 : decode cL_law 1416 = .ok (.iconst 1, 1) := by
  sorry
theorem dL_law_1417 : decode cL_law 1417 = .ok (.iadd, 1) := by
  sorry
theorem dL_law_1418 : decode cL_law 1418 = .ok (.iaload, 1) := by
  sorry
theorem dL_law_1419 : decode cL_law 1419 = .ok (.invokevirtual 179, 3) := by
  sorry
theorem dL_law_1422 : decode cL_law 1422 = .ok (.pop, 1) := by
  sorry
theorem dL_law_1423 : decode cL_law 1423 = .ok (.aload_n 2, 1) := by
  sorry
theorem dL_law_1424 : decode cL_law 1424 = .ok (.aload_n 0, 1) := by
  sorry
theorem dL_law_1425 : decode cL_law 1425 = .ok (.iload_n 3, 1) := by
  sorry
theorem dL_law_1426 : decode cL_law 1426 = .ok (.iconst 1, 1) := by
  sorry
theorem dL_law_1427 : decode cL_law 1427 = .ok (.iadd, 1) := by
  sorry
theorem dL_law_1428 : decode cL_law 1428 = .ok (.iaload, 1) := by
  sorry
theorem dL_law_1429 : decode cL_law 1429 = .ok (.invokevirtual 182, 3) := by
  sorry
theorem dL_law_1432 : decode cL_law 1432 = .ok (.pop, 1) := by
  sorry
theorem dL_law_1433 : decode cL_law 1433 = .ok (.goto 182, 3) := by
  sorry
theorem dL_law_1436 : decode cL_law 1436 = .ok (.aload_n 1, 1) := by
  sorry
theorem dL_law_1437 : decode cL_law 1437 = .ok (.aload_n 0, 1) := by
  sorry
theorem dL_law_1438 : decode cL_law 1438 = .ok (.iload_n 3, 1) := by
  sorry
theorem dL_law_1439 : decode cL_law 1439 = .ok (.iconst 1, 1) := by
  sorry
theorem dL_law_1440 : decode cL_law 1440 = .ok (.iadd, 1) := by
  sorry
theorem dL_law_1441 : decode cL_law 1441 = .ok (.iaload, 1) := by
  sorry
theorem dL_law_1442 : decode cL_law 1442 = .ok (.aload_n 0, 1) := by
  sorry
theorem dL_law_1443 : decode cL_law 1443 = .ok (.iload_n 3, 1) := by
  sorry
theorem dL_law_1444 : decode cL_law 1444 = .ok (.iconst 2, 1) := by
  sorry
theorem dL_law_1445 : decode cL_law 1445 = .ok (.iadd, 1) := by
  sorry
theorem dL_law_1446 : decode cL_law 1446 = .ok (.iaload, 1) := by
  sorry
theorem dL_law_1447 : decode cL_law 1447 = .ok (.aload_n 0, 1) := by
  sorry
theorem dL_law_1448 : decode cL_law 1448 = .ok (.iload_n 3, 1) := by
  sorry
theorem dL_law_1449 : decode cL_law 1449 = .ok (.iconst 3, 1) := by
  sorry
theorem dL_law_1450 : decode cL_law 1450 = .ok (.iadd, 1) := by
  sorry
theorem dL_law_1451 : decode cL_law 1451 = .ok (.iaload, 1) := by
  sorry
theorem dL_law_1452 : decode cL_law 1452 = .ok (.invokevirtual 183, 3) := by
  sorry
theorem dL_law_1455 : decode cL_law 1455 = .ok (.pop, 1) := by
  sorry
theorem dL_law_1456 : decode cL_law 1456 = .ok (.aload_n 2, 1) := by
  sorry
theorem dL_law_1457 : decode cL_law 1457 = .ok (.aload_n 0, 1) := by
  sorry
theorem dL_law_1458 : decode cL_law 1458 = .ok (.iload_n 3, 1) := by
  sorry
theorem dL_law_1459 : decode cL_law 1459 = .ok (.iconst 1, 1) := by
  sorry
theorem dL_law_1460 : decode cL_law 1460 = .ok (.iadd, 1) := by
  sorry
theorem dL_law_1461 : decode cL_law 1461 = .ok (.iaload, 1) := by
  sorry
theorem dL_law_1462 : decode cL_law 1462 = .ok (.aload_n 0, 1) := by
  sorry
theorem dL_law_1463 : decode cL_law 1463 = .ok (.iload_n 3, 1) := by
  sorry
theorem dL_law_1464 : decode cL_law 1464 = .ok (.iconst 2, 1) := by
  sorry
theorem dL_law_1465 : decode cL_law 1465 = .ok (.iadd, 1) := by
  sorry
theorem dL_law_1466 : decode cL_law 1466 = .ok (.iaload, 1) := by
  sorry
theorem dL_law_1467 : decode cL_law 1467 = .ok (.aload_n 0, 1) := by
  sorry
theorem dL_law_1468 : decode cL_law 1468 = .ok (.iload_n 3, 1) := by
  sorry
theorem dL_law_1469 : decode cL_law 1469 = .ok (.iconst 3, 1) := by
  sorry
theorem dL_law_1470 : decode cL_law 1470 = .ok (.iadd, 1) := by
  sorry
theorem dL_law_1471 : decode cL_law 1471 = .ok (.iaload, 1) := by
  sorry
theorem dL_law_1472 : decode cL_law 1472 = .ok (.invokevirtual 186, 3) := by
  sorry
theorem dL_law_1475 : decode cL_law 1475 = .ok (.pop, 1) := by
  sorry
theorem dL_law_1476 : decode cL_law 1476 = .ok (.goto 139, 3) := by
  sorry
theorem dL_law_1479 : decode cL_law 1479 = .ok (.aload_n 1, 1) := by
  sorry
theorem dL_law_1480 : decode cL_law 1480 = .ok (.aload_n 0, 1) := by
  sorry
theorem dL_law_1481 : decode cL_law 1481 = .ok (.iload_n 3, 1) := by
  sorry
theorem dL_law_1482 : decode cL_law 1482 = .ok (.iconst 1, 1) := by
  sorry
theorem dL_law_1483 : decode cL_law 1483 = .ok (.iadd, 1) := by
  sorry
theorem dL_law_1484 : decode cL_law 1484 = .ok (.iaload, 1) := by
  sorry
theorem dL_law_1485 : decode cL_law 1485 = .ok (.aload_n 0, 1) := by
  sorry
theorem dL_law_1486 : decode cL_law 1486 = .ok (.iload_n 3, 1) := by
  sorry
theorem dL_law_1487 : decode cL_law 1487 = .ok (.iconst 2, 1) := by
  sorry
theorem dL_law_1488 : decode cL_law 1488 = .ok (.iadd, 1) := by
  sorry
theorem dL_law_1489 : decode cL_law 1489 = .ok (.iaload, 1) := by
  sorry
theorem dL_law_1490 : decode cL_law 1490 = .ok (.aload_n 0, 1) := by
  sorry
theorem dL_law_1491 : decode cL_law 1491 = .ok (.iload_n 3, 1) := by
  sorry
theorem dL_law_1492 : decode cL_law 1492 = .ok (.iconst 3, 1) := by
  sorry
theorem dL_law_1493 : decode cL_law 1493 = .ok (.iadd, 1) := by
  sorry
theorem dL_law_1494 : decode cL_law 1494 = .ok (.iaload, 1) := by
  sorry
theorem dL_law_1495 : decode cL_law 1495 = .ok (.i2l, 1) := by
  sorry
theorem dL_law_1496 : decode cL_law 1496 = .ok (.bipush 32, 2) := by
  sorry
theorem dL_law_1498 : decode cL_law 1498 = .ok (.lshl, 1) := by
  sorry
theorem dL_law_1499 : decode cL_law 1499 = .ok (.aload_n 0, 1) := by
  sorry
theorem dL_law_1500 : decode cL_law 1500 = .ok (.iload_n 3, 1) := by
  sorry
theorem dL_law_1501 : decode cL_law 1501 = .ok (.iconst 4, 1) := by
  sorry
theorem dL_law_1502 : decode cL_law 1502 = .ok (.iadd, 1) := by
  sorry
theorem dL_law_1503 : decode cL_law 1503 = .ok (.iaload, 1) := by
  sorry
theorem dL_law_1504 : decode cL_law 1504 = .ok (.i2l, 1) := by
  sorry
theorem dL_law_1505 : decode cL_law 1505 = .ok (.ldc2_w 187, 3) := by
  sorry
theorem dL_law_1508 : decode cL_law 1508 = .ok (.land, 1) := by
  sorry
theorem dL_law_1509 : decode cL_law 1509 = .ok (.lor, 1) := by
  sorry
theorem dL_law_1510 : decode cL_law 1510 = .ok (.invokevirtual 189, 3) := by
  sorry
theorem dL_law_1513 : decode cL_law 1513 = .ok (.pop, 1) := by
  sorry
theorem dL_law_1514 : decode cL_law 1514 = .ok (.aload_n 2, 1) := by
  sorry
theorem dL_law_1515 : decode cL_law 1515 = .ok (.aload_n 0, 1) := by
  sorry
theorem dL_law_1516 : decode cL_law 1516 = .ok (.iload_n 3, 1) := by
  sorry
theorem dL_law_1517 : decode cL_law 1517 = .ok (.iconst 1, 1) := by
  sorry
theorem dL_law_1518 : decode cL_law 1518 = .ok (.iadd, 1) := by
  sorry
theorem dL_law_1519 : decode cL_law 1519 = .ok (.iaload, 1) := by
  sorry
theorem dL_law_1520 : decode cL_law 1520 = .ok (.aload_n 0, 1) := by
  sorry
theorem dL_law_1521 : decode cL_law 1521 = .ok (.iload_n 3, 1) := by
  sorry
theorem dL_law_1522 : decode cL_law 1522 = .ok (.iconst 2, 1) := by
  sorry
theorem dL_law_1523 : decode cL_law 1523 = .ok (.iadd, 1) := by
  sorry
theorem dL_law_1524 : decode cL_law 1524 = .ok (.iaload, 1) := by
  sorry
theorem dL_law_1525 : decode cL_law 1525 = .ok (.aload_n 0, 1) := by
  sorry
theorem dL_law_1526 : decode cL_law 1526 = .ok (.iload_n 3, 1) := by
  sorry
theorem dL_law_1527 : decode cL_law 1527 = .ok (.iconst 3, 1) := by
  sorry
theorem dL_law_1528 : decode cL_law 1528 = .ok (.iadd, 1) := by
  sorry
theorem dL_law_1529 : decode cL_law 1529 = .ok (.iaload, 1) := by
  sorry
theorem dL_law_1530 : decode cL_law 1530 = .ok (.i2l, 1) := by
  sorry
theorem dL_law_1531 : decode cL_law 1531 = .ok (.bipush 32, 2) := by
  sorry
theorem dL_law_1533 : decode cL_law 1533 = .ok (.lshl, 1) := by
  sorry
theorem dL_law_1534 : decode cL_law 1534 = .ok (.aload_n 0, 1) := by
  sorry
theorem dL_law_1535 : decode cL_law 1535 = .ok (.iload_n 3, 1) := by
  sorry
theorem dL_law_1536 : decode cL_law 1536 = .ok (.iconst 4, 1) := by
  sorry
theorem dL_law_1537 : decode cL_law 1537 = .ok (.iadd, 1) := by
  sorry
theorem dL_law_1538 : decode cL_law 1538 = .ok (.iaload, 1) := by
  sorry
theorem dL_law_1539 : decode cL_law 1539 = .ok (.i2l, 1) := by
  sorry
theorem dL_law_1540 : decode cL_law 1540 = .ok (.ldc2_w 187, 3) := by
  sorry
theorem dL_law_1543 : decode cL_law 1543 = .ok (.land, 1) := by
  sorry
theorem dL_law_1544 : decode cL_law 1544 = .ok (.lor, 1) := by
  sorry
theorem dL_law_1545 : decode cL_law 1545 = .ok (.invokevirtual 193, 3) := by
  sorry
theorem dL_law_1548 : decode cL_law 1548 = .ok (.pop, 1) := by
  sorry
theorem dL_law_1549 : decode cL_law 1549 = .ok (.goto 66, 3) := by
  sorry
theorem dL_law_1552 : decode cL_law 1552 = .ok (.aload_n 1, 1) := by
  sorry
theorem dL_law_1553 : decode cL_law 1553 = .ok (.aload_n 0, 1) := by
  sorry
theorem dL_law_1554 : decode cL_law 1554 = .ok (.iload_n 3, 1) := by
  sorry
theorem dL_law_1555 : decode cL_law 1555 = .ok (.iconst 1, 1) := by
  sorry
theorem dL_law_1556 : decode cL_law 1556 = .ok (.iadd, 1) := by
  sorry
theorem dL_law_1557 : decode cL_law 1557 = .ok (.iaload, 1) := by
  sorry
theorem dL_law_1558 : decode cL_law 1558 = .ok (.aload_n 0, 1) := by
  sorry
theorem dL_law_1559 : decode cL_law 1559 = .ok (.iload_n 3, 1) := by
  sorry
theorem dL_law_1560 : decode cL_law 1560 = .ok (.iconst 2, 1) := by
  sorry
theorem dL_law_1561 : decode cL_law 1561 = .ok (.iadd, 1) := by
  sorry
theorem dL_law_1562 : decode cL_law 1562 = .ok (.iaload, 1) := by
  sorry
theorem dL_law_1563 : decode cL_law 1563 = .ok (.aload_n 0, 1) := by
  sorry
theorem dL_law_1564 : decode cL_law 1564 = .ok (.iload_n 3, 1) := by
  sorry
theorem dL_law_1565 : decode cL_law 1565 = .ok (.iconst 3, 1) := by
  sorry
theorem dL_law_1566 : decode cL_law 1566 = .ok (.iadd, 1) := by
  sorry
theorem dL_law_1567 : decode cL_law 1567 = .ok (.iaload, 1) := by
  sorry
theorem dL_law_1568 : decode cL_law 1568 = .ok (.aload_n 0, 1) := by
  sorry
theorem dL_law_1569 : decode cL_law 1569 = .ok (.iload_n 3, 1) := by
  sorry
theorem dL_law_1570 : decode cL_law 1570 = .ok (.iconst 4, 1) := by
  sorry
theorem dL_law_1571 : decode cL_law 1571 = .ok (.iadd, 1) := by
  sorry
theorem dL_law_1572 : decode cL_law 1572 = .ok (.iaload, 1) := by
  sorry
theorem dL_law_1573 : decode cL_law 1573 = .ok (.aload_n 0, 1) := by
  sorry
theorem dL_law_1574 : decode cL_law 1574 = .ok (.iload_n 3, 1) := by
  sorry
theorem dL_law_1575 : decode cL_law 1575 = .ok (.iconst 5, 1) := by
  sorry
theorem dL_law_1576 : decode cL_law 1576 = .ok (.iadd, 1) := by
  sorry
theorem dL_law_1577 : decode cL_law 1577 = .ok (.iaload, 1) := by
  sorry
theorem dL_law_1578 : decode cL_law 1578 = .ok (.invokevirtual 194, 3) := by
  sorry
theorem dL_law_1581 : decode cL_law 1581 = .ok (.pop, 1) := by
  sorry
theorem dL_law_1582 : decode cL_law 1582 = .ok (.aload_n 2, 1) := by
  sorry
theorem dL_law_1583 : decode cL_law 1583 = .ok (.aload_n 0, 1) := by
  sorry
theorem dL_law_1584 : decode cL_law 1584 = .ok (.iload_n 3, 1) := by
  sorry
theorem dL_law_1585 : decode cL_law 1585 = .ok (.iconst 1, 1) := by
  sorry
theorem dL_law_1586 : decode cL_law 1586 = .ok (.iadd, 1) := by
  sorry
theorem dL_law_1587 : decode cL_law 1587 = .ok (.iaload, 1) := by
  sorry
theorem dL_law_1588 : decode cL_law 1588 = .ok (.aload_n 0, 1) := by
  sorry
theorem dL_law_1589 : decode cL_law 1589 = .ok (.iload_n 3, 1) := by
  sorry
theorem dL_law_1590 : decode cL_law 1590 = .ok (.iconst 2, 1) := by
  sorry
theorem dL_law_1591 : decode cL_law 1591 = .ok (.iadd, 1) := by
  sorry
theorem dL_law_1592 : decode cL_law 1592 = .ok (.iaload, 1) := by
  sorry
theorem dL_law_1593 : decode cL_law 1593 = .ok (.aload_n 0, 1) := by
  sorry
theorem dL_law_1594 : decode cL_law 1594 = .ok (.iload_n 3, 1) := by
  sorry
theorem dL_law_1595 : decode cL_law 1595 = .ok (.iconst 3, 1) := by
  sorry
theorem dL_law_1596 : decode cL_law 1596 = .ok (.iadd, 1) := by
  sorry
theorem dL_law_1597 : decode cL_law 1597 = .ok (.iaload, 1) := by
  sorry
theorem dL_law_1598 : decode cL_law 1598 = .ok (.aload_n 0, 1) := by
  sorry
theorem dL_law_1599 : decode cL_law 1599 = .ok (.iload_n 3, 1) := by
  sorry
theorem dL_law_1600 : decode cL_law 1600 = .ok (.iconst 4, 1) := by
  sorry
theorem dL_law_1601 : decode cL_law 1601 = .ok (.iadd, 1) := by
  sorry
theorem dL_law_1602 : decode cL_law 1602 = .ok (.iaload, 1) := by
  sorry
theorem dL_law_1603 : decode cL_law 1603 = .ok (.aload_n 0, 1) := by
  sorry
theorem dL_law_1604 : decode cL_law 1604 = .ok (.iload_n 3, 1) := by
  sorry
theorem dL_law_1605 : decode cL_law 1605 = .ok (.iconst 5, 1) := by
  sorry
theorem dL_law_1606 : decode cL_law 1606 = .ok (.iadd, 1) := by
  sorry
theorem dL_law_1607 : decode cL_law 1607 = .ok (.iaload, 1) := by
  sorry
theorem dL_law_1608 : decode cL_law 1608 = .ok (.invokevirtual 197, 3) := by
  sorry
theorem dL_law_1611 : decode cL_law 1611 = .ok (.pop, 1) := by
  sorry
theorem dL_law_1612 : decode cL_law 1612 = .ok (.goto 3, 3) := by
  sorry
theorem dL_law_1615 : decode cL_law 1615 = .ok (.iinc 3 6, 3) := by
  sorry
theorem dL_law_1618 : decode cL_law 1618 = .ok (.goto (-1600), 3) := by
  sorry
theorem dL_law_1621 : decode cL_law 1621 = .ok (.iconst 1, 1) := by
  sorry
theorem dL_law_1622 : decode cL_law 1622 = .ok (.ireturn, 1) := by
  sorry
-- ===== end of PART A; then your names; then what follows =====
/-! THE CLAIM OUT OF ONE WALK OF THE LAW'S BODY. Your part is whole_start (and what it stands on); all else here is the same for every law, but numbers. -/
def R_law : String := "MonthPushLaw"
def lw_P (b : Addr) (xs : List Int32) (args : Array Value) (s : State) : Prop := args = #[.ref b] ∧ s.IntsAt b xs ∧ xs.length ≤ 3072 ∧ (Jvm.Cond.and given_1 narrow_1).before args s = true
def lw_Q (_ : Array Value) (s : State) (o : Outcome) (t : State) : Prop := o = .returned (some (.int 1)) ∧ Framed s o t [] 600000 7302250
def lw_Z (below : List Frame) (a : Array Value) (s : State) : State → Prop := fun t => ∃ o, t.status = .running ∧ Ended t below o ∧ lw_Q a s o t
/-- the law's own end, with 1 on the stack, nothing written that was there before, its room as the claim has it -/
theorem lw_ret {p : Program} {l : Launch} {e : Env} {s : State} {m : MethodId} {below : List Frame} {meth : Method} {c : Code} {b : Nat} (hx : p.tables.exec = Jvm.exec) (hb : c.code = code) (hr : meth.sig.returnType = ret) (hlocks : meth.locks = false) {pc : Nat} {H : Heap} {ls : Array Slot} (hdg : decode code pc = .ok (.ireturn, 1)) : W p l e room_1 s m #[Value.ref b] below meth c H [] 600000 7302250 (lw_Z below #[Value.ref b] s) (F0 m pc ls [.int 1]) := by
  intro T hT X
  obtain ⟨fs, hret, hrun, hended, hW, hframe⟩ := X.leave (v := some (.int 1)) (hlocks := hlocks) (fun h => by rw [hr] at h; cases h)
  have hmeth' : T.vm.method? m = some meth := X.method'
  refine ⟨T.setFrames fs, ?_, .returned (some (.int 1)), hrun, hended, rfl, ⟨_, rfl⟩, hW, hframe⟩
  jvm_step X.here [X.here.top, hx, hb, hdg, hmeth', hr, ret, narrow_b1]
  (try refine ⟨rfl, ?_⟩); (try refine ⟨rfl, ?_⟩)
  first | (intro acts; rw [hret _ acts rfl rfl rfl]) | rw [hret _ _ rfl rfl rfl]
  exact Steps.refl _
/-- what holds at the law's entry: the machine, the code, the tables' words (any of lw_tbl by 'hts w (by decide +kernel)'), the script of L ints xs at the cell b, what the Statement gives of the start (any of its parts by flat_of_before) -/
def lw_At (p : Program) (s : State) (m : MethodId) (meth : Method) (c : Code) (b L : Nat) (xs : Nat → Int32) : Prop :=
  p.tables.exec = Jvm.exec ∧ c.code = code ∧ meth.sig.returnType = ret ∧ c.maxLocals = 4 ∧ s.vm.findClass R_law = some m.cls ∧ (∀ w ∈ lw_tbl, w.before #[Value.ref b] s = true) ∧ va_X b L xs s s.heap ∧ b < s.heap.size ∧ meth.locks = false ∧ (Jvm.Cond.and given_1 narrow_1).before #[Value.ref b] s = true
set_option maxHeartbeats 8000000 in
set_option maxRecDepth 100000 in
theorem law_case0 {p : Program} {e : Env} {s : State} {m : MethodId} {below : List Frame} {meth : Method} {c : Code} {b L : Nat} {xs : Nat → Int32} (l : Launch) (dC : Nat → ClassId) (dI : Nat → Nat → Nat) (cB cI cJ cZ cP cQ : ClassId) (adK adV : Nat → Nat) (q0 : Option Nat) (a1 a2 : Nat) (x3 : Int32) (C0 : lw_At p s m meth c b L xs) (hL : L ≤ 3072) (hK : va_K (dC, dI) vwCl (zT cB cI cJ cZ cP cQ) s) (hX : zX zNW zAO s) (hE : zE adK adV q0 (fun q : Nat => s.heap.size ≤ q) s s.heap) (i cells slots : Nat) (hi : x3.toInt = i) (hiL : i + 6 ≤ L) (hc : cells + 18 ≤ 600000) (hs : slots + 1522 ≤ 7302250) (w1 w2 : va_W) (I1 : IX cB cI cJ cZ cP cQ a1 w1) (I2 : IM cB cI cJ cZ cP cQ a2 w2) (H : Heap) (locs : List Loc) (hP : va_P (dC, dI) vwCl (w1 ++ w2) H) (hD : va_D (fun q : Nat => s.heap.size ≤ q) (w1 ++ w2)) (hS : va_S (fun q : Nat => s.heap.size ≤ q) s.heap H locs) (ls : Array Slot) (hl : lv_has ls 4 [(3, .int x3), (2, .ref a2), (1, .ref a1), (0, .ref b)]) (kk : ∀ (w1 w2 : va_W) (H : Heap) (locs : List Loc) (ls : Array Slot), IX cB cI cJ cZ cP cQ a1 w1 → IM cB cI cJ cZ cP cQ a2 w2 → va_P (dC, dI) vwCl (w1 ++ w2) H → va_D (fun q : Nat => s.heap.size ≤ q) (w1 ++ w2) → va_S (fun q : Nat => s.heap.size ≤ q) s.heap H locs → lv_has ls 4 [(3, .int x3), (2, .ref a2), (1, .ref a1), (0, .ref b)] → W p l e room_1 s m #[Value.ref b] below meth c H locs (cells + 18) (slots + 1522) (lw_Z below #[Value.ref b] s) (F0 m 1615 ls [])) : W p l e room_1 s m #[Value.ref b] below meth c H locs cells slots (lw_Z below #[Value.ref b] s) (F0 m 220 ls []) := by
  obtain ⟨hx, hb, hr, hml, hown, hts, hXs, hbl, hlocks, hgv⟩ := id C0
  have hown : s.vm.findClass RL = some m.cls := hown
  have hA : ∀ q : Nat, s.heap.size ≤ q → (fun q : Nat => s.heap.size ≤ q) q := fun _ h => h
  have hbA : ¬ (fun q : Nat => s.heap.size ≤ q) b := Nat.not_le.mpr hbl
  refine lv_aload_n hx hb dL_law_220 rfl (lv_at hl 2 rfl) ?_
  refine lv_aload_n hx hb dL_law_221 rfl (lv_at hl 3 rfl) ?_
  refine lv_iload_n hx hb dL_law_222 rfl (lv_at hl 0 rfl) ?_
  refine lv_iconst (v := 1) hx hb dL_law_223 (by decide) ?_
  refine lv_iadd hx hb dL_law_224 ?_
  refine lv_topi (fun r1 h2 => ?_)
  have f3 : r1.toInt = x3.toInt + 1 := z_iadd h2 rfl (show Int32.toInt 1 = 1 from by decide) (by omega) (by omega)
  refine va_sld hx hb hXs hbl hbA hS (z_in rfl (by omega) (by omega)) dL_law_225 ?_
  refine lv_topi (fun a4 h5 => ?_)
  refine lv_aload_n hx hb dL_law_226 rfl (lv_at hl 3 rfl) ?_
  refine lv_iload_n hx hb dL_law_227 rfl (lv_at hl 0 rfl) ?_
  refine lv_iconst (v := 2) hx hb dL_law_228 (by decide) ?_
  refine lv_iadd hx hb dL_law_229 ?_
  refine lv_topi (fun r6 h7 => ?_)
  have f8 : r6.toInt = x3.toInt + 2 := z_iadd h7 rfl (show Int32.toInt 2 = 2 from by decide) (by omega) (by omega)
  refine va_sld hx hb hXs hbl hbA hS (z_in rfl (by omega) (by omega)) dL_law_230 ?_
  refine lv_topi (fun a9 h10 => ?_)
  refine lv_aload_n hx hb dL_law_231 rfl (lv_at hl 3 rfl) ?_
  refine lv_iload_n hx hb dL_law_232 rfl (lv_at hl 0 rfl) ?_
  refine lv_iconst (v := 3) hx hb dL_law_233 (by decide) ?_
  refine lv_iadd hx hb dL_law_234 ?_
  refine lv_topi (fun r11 h12 => ?_)
  have f13 : r11.toInt = x3.toInt + 3 := z_iadd h12 rfl (show Int32.toInt 3 = 3 from by decide) (by omega) (by omega)
  refine va_sld hx hb hXs hbl hbA hS (z_in rfl (by omega) (by omega)) dL_law_235 ?_
  refine lv_topi (fun a14 h15 => ?_)
  refine lv_aload_n hx hb dL_law_236 rfl (lv_at hl 3 rfl) ?_
  refine lv_iload_n hx hb dL_law_237 rfl (lv_at hl 0 rfl) ?_
  refine lv_iconst (v := 4) hx hb dL_law_238 (by decide) ?_
  refine lv_iadd hx hb dL_law_239 ?_
  refine lv_topi (fun r16 h17 => ?_)
  have f18 : r16.toInt = x3.toInt + 4 := z_iadd h17 rfl (show Int32.toInt 4 = 4 from by decide) (by omega) (by omega)
  refine va_sld hx hb hXs hbl hbA hS (z_in rfl (by omega) (by omega)) dL_law_240 ?_
  refine lv_topi (fun a19 h20 => ?_)
  refine lv_aload_n hx hb dL_law_241 rfl (lv_at hl 3 rfl) ?_
  refine lv_iload_n hx hb dL_law_242 rfl (lv_at hl 0 rfl) ?_
  refine lv_iconst (v := 5) hx hb dL_law_243 (by decide) ?_
  refine lv_iadd hx hb dL_law_244 ?_
  refine lv_topi (fun r21 h22 => ?_)
  have f23 : r21.toInt = x3.toInt + 5 := z_iadd h22 rfl (show Int32.toInt 5 = 5 from by decide) (by omega) (by omega)
  refine va_sld hx hb hXs hbl hbA hS (z_in rfl (by omega) (by omega)) dL_law_245 ?_
  refine lv_topi (fun a24 h25 => ?_)
  refine f_fini (va_runV (As := [.int a4, .int a9, .int a14, .int a19, .int a24]) (rest := []) ⟨hx, hb, hml, hown, hts⟩ (q_X8_feed l dC dI cB cI cJ cZ cP cQ adK adV q0 a1 H.size w1 a4 a9 a14 a19 a24 I1) (cwV 5 hts gT_X8_feed rfl rfl rfl (by decide +kernel) ⟨Nat.le_of_ble_eq_true rfl, Nat.le_of_ble_eq_true rfl⟩) (f_pV (ci := 8) hE hS hA hK hP hD hX rfl (IX_recv I1)) rfl rfl hl.1 rfl (lv_room (Nat.le_of_ble_eq_true rfl)) dL_law_246 ⟨by show _ + 0 ≤ 600000; omega, by show _ + 0 ≤ 7302250; omega⟩) hP hD hS hA (fun r26 w1 H locs hp hP hD hS => ?_)
  obtain ⟨I1, h27⟩ := hp
  refine lv_pop hx hb dL_law_249 rfl ?_
  refine lv_aload_n hx hb dL_law_250 rfl (lv_at hl 1 rfl) ?_
  refine lv_aload_n hx hb dL_law_251 rfl (lv_at hl 3 rfl) ?_
  refine lv_iload_n hx hb dL_law_252 rfl (lv_at hl 0 rfl) ?_
  refine lv_iconst (v := 1) hx hb dL_law_253 (by decide) ?_
  refine lv_iadd hx hb dL_law_254 ?_
  refine lv_topi (fun r28 h29 => ?_)
  have f30 : r28.toInt = x3.toInt + 1 := z_iadd h29 rfl (show Int32.toInt 1 = 1 from by decide) (by omega) (by omega)
  refine va_sld hx hb hXs hbl hbA hS (z_in rfl (by omega) (by omega)) dL_law_255 ?_
  refine lv_topi (fun a31 h32 => ?_)
  refine lv_aload_n hx hb dL_law_256 rfl (lv_at hl 3 rfl) ?_
  refine lv_iload_n hx hb dL_law_257 rfl (lv_at hl 0 rfl) ?_
  refine lv_iconst (v := 2) hx hb dL_law_258 (by decide) ?_
  refine lv_iadd hx hb dL_law_259 ?_
  refine lv_topi (fun r33 h34 => ?_)
  have f35 : r33.toInt = x3.toInt + 2 := z_iadd h34 rfl (show Int32.toInt 2 = 2 from by decide) (by omega) (by omega)
  refine va_sld hx hb hXs hbl hbA hS (z_in rfl (by omega) (by omega)) dL_law_260 ?_
  refine lv_topi (fun a36 h37 => ?_)
  refine lv_aload_n hx hb dL_law_261 rfl (lv_at hl 3 rfl) ?_
  refine lv_iload_n hx hb dL_law_262 rfl (lv_at hl 0 rfl) ?_
  refine lv_iconst (v := 3) hx hb dL_law_263 (by decide) ?_
  refine lv_iadd hx hb dL_law_264 ?_
  refine lv_topi (fun r38 h39 => ?_)
  have f40 : r38.toInt = x3.toInt + 3 := z_iadd h39 rfl (show Int32.toInt 3 = 3 from by decide) (by omega) (by omega)
  refine va_sld hx hb hXs hbl hbA hS (z_in rfl (by omega) (by omega)) dL_law_265 ?_
  refine lv_topi (fun a41 h42 => ?_)
  refine lv_aload_n hx hb dL_law_266 rfl (lv_at hl 3 rfl) ?_
  refine lv_iload_n hx hb dL_law_267 rfl (lv_at hl 0 rfl) ?_
  refine lv_iconst (v := 4) hx hb dL_law_268 (by decide) ?_
  refine lv_iadd hx hb dL_law_269 ?_
  refine lv_topi (fun r43 h44 => ?_)
  have f45 : r43.toInt = x3.toInt + 4 := z_iadd h44 rfl (show Int32.toInt 4 = 4 from by decide) (by omega) (by omega)
  refine va_sld hx hb hXs hbl hbA hS (z_in rfl (by omega) (by omega)) dL_law_270 ?_
  refine lv_topi (fun a46 h47 => ?_)
  refine lv_aload_n hx hb dL_law_271 rfl (lv_at hl 3 rfl) ?_
  refine lv_iload_n hx hb dL_law_272 rfl (lv_at hl 0 rfl) ?_
  refine lv_iconst (v := 5) hx hb dL_law_273 (by decide) ?_
  refine lv_iadd hx hb dL_law_274 ?_
  refine lv_topi (fun r48 h49 => ?_)
  have f50 : r48.toInt = x3.toInt + 5 := z_iadd h49 rfl (show Int32.toInt 5 = 5 from by decide) (by omega) (by omega)
  refine va_sld hx hb hXs hbl hbA hS (z_in rfl (by omega) (by omega)) dL_law_275 ?_
  refine lv_topi (fun a51 h52 => ?_)
  have hP : va_P (dC, dI) vwCl (w2 ++ w1) H := f_Pm List.perm_append_comm hP
  have hD : va_D (fun q : Nat => s.heap.size ≤ q) (w2 ++ w1) := f_Dm List.perm_append_comm hD
  refine f_fini (va_runV (As := [.int a31, .int a36, .int a41, .int a46, .int a51]) (rest := []) ⟨hx, hb, hml, hown, hts⟩ (q_X9_feed l dC dI cB cI cJ cZ cP cQ adK adV q0 a2 H.size w2 a31 a36 a41 a46 a51 I2) (cwV 5 hts gT_X9_feed rfl rfl rfl (by decide +kernel) ⟨Nat.le_of_ble_eq_true rfl, Nat.le_of_ble_eq_true rfl⟩) (f_pV (ci := 9) hE hS hA hK hP hD hX rfl (IM_recv I2)) rfl rfl hl.1 rfl (lv_room (Nat.le_of_ble_eq_true rfl)) dL_law_276 ⟨by show _ + 0 ≤ 600000; omega, by show _ + 0 ≤ 7302250; omega⟩) hP hD hS hA (fun r53 w2 H locs hp hP hD hS => ?_)
  obtain ⟨I2, h54⟩ := hp
  have hP : va_P (dC, dI) vwCl (w1 ++ w2) H := f_Pm List.perm_append_comm hP
  have hD : va_D (fun q : Nat => s.heap.size ≤ q) (w1 ++ w2) := f_Dm List.perm_append_comm hD
  refine lv_pop hx hb dL_law_279 rfl ?_
  refine lv_goto (tgt := 1615) hx hb dL_law_280 (by decide) ?_
  refine W.widen (k := cells + 18) (n := slots + 1522) (by omega) (by omega) ?_
  exact kk w1 w2 H locs ls I1 I2 hP hD hS (lv_sub hl [0, 1, 2, 3] rfl)
set_option maxHeartbeats 8000000 in
set_option maxRecDepth 100000 in
theorem law_case1 {p : Program} {e : Env} {s : State} {m : MethodId} {below : List Frame} {meth : Method} {c : Code} {b L : Nat} {xs : Nat → Int32} (l : Launch) (dC : Nat → ClassId) (dI : Nat → Nat → Nat) (cB cI cJ cZ cP cQ : ClassId) (adK adV : Nat → Nat) (q0 : Option Nat) (a1 a2 : Nat) (x3 : Int32) (C0 : lw_At p s m meth c b L xs) (hL : L ≤ 3072) (hK : va_K (dC, dI) vwCl (zT cB cI cJ cZ cP cQ) s) (hX : zX zNW zAO s) (hE : zE adK adV q0 (fun q : Nat => s.heap.size ≤ q) s s.heap) (i cells slots : Nat) (hi : x3.toInt = i) (hiL : i + 6 ≤ L) (hc : cells + 18 ≤ 600000) (hs : slots + 1522 ≤ 7302250) (w1 w2 : va_W) (I1 : IX cB cI cJ cZ cP cQ a1 w1) (I2 : IM cB cI cJ cZ cP cQ a2 w2) (H : Heap) (locs : List Loc) (hP : va_P (dC, dI) vwCl (w1 ++ w2) H) (hD : va_D (fun q : Nat => s.heap.size ≤ q) (w1 ++ w2)) (hS : va_S (fun q : Nat => s.heap.size ≤ q) s.heap H locs) (ls : Array Slot) (hl : lv_has ls 4 [(3, .int x3), (2, .ref a2), (1, .ref a1), (0, .ref b)]) (kk : ∀ (w1 w2 : va_W) (H : Heap) (locs : List Loc) (ls : Array Slot), IX cB cI cJ cZ cP cQ a1 w1 → IM cB cI cJ cZ cP cQ a2 w2 → va_P (dC, dI) vwCl (w1 ++ w2) H → va_D (fun q : Nat => s.heap.size ≤ q) (w1 ++ w2) → va_S (fun q : Nat => s.heap.size ≤ q) s.heap H locs → lv_has ls 4 [(3, .int x3), (2, .ref a2), (1, .ref a1), (0, .ref b)] → W p l e room_1 s m #[Value.ref b] below meth c H locs (cells + 18) (slots + 1522) (lw_Z below #[Value.ref b] s) (F0 m 1615 ls [])) : W p l e room_1 s m #[Value.ref b] below meth c H locs cells slots (lw_Z below #[Value.ref b] s) (F0 m 283 ls []) := by
  obtain ⟨hx, hb, hr, hml, hown, hts, hXs, hbl, hlocks, hgv⟩ := id C0
  have hown : s.vm.findClass RL = some m.cls := hown
  have hA : ∀ q : Nat, s.heap.size ≤ q → (fun q : Nat => s.heap.size ≤ q) q := fun _ h => h
  have hbA : ¬ (fun q : Nat => s.heap.size ≤ q) b := Nat.not_le.mpr hbl
  refine lv_aload_n hx hb dL_law_283 rfl (lv_at hl 2 rfl) ?_
  refine lv_aload_n hx hb dL_law_284 rfl (lv_at hl 3 rfl) ?_
  refine lv_iload_n hx hb dL_law_285 rfl (lv_at hl 0 rfl) ?_
  refine lv_iconst (v := 1) hx hb dL_law_286 (by decide) ?_
  refine lv_iadd hx hb dL_law_287 ?_
  refine lv_topi (fun r1 h2 => ?_)
  have f3 : r1.toInt = x3.toInt + 1 := z_iadd h2 rfl (show Int32.toInt 1 = 1 from by decide) (by omega) (by omega)
  refine va_sld hx hb hXs hbl hbA hS (z_in rfl (by omega) (by omega)) dL_law_288 ?_
  refine lv_topi (fun a4 h5 => ?_)
  refine f_fini (va_runV (As := [.int a4]) (rest := []) ⟨hx, hb, hml, hown, hts⟩ (q_X8_end l dC dI cB cI cJ cZ cP cQ adK adV q0 a1 H.size w1 a4 I1) (cwV 1 hts gT_X8_end rfl rfl rfl (by decide +kernel) ⟨Nat.le_of_ble_eq_true rfl, Nat.le_of_ble_eq_true rfl⟩) (f_pV (ci := 8) hE hS hA hK hP hD hX rfl (IX_recv I1)) rfl rfl hl.1 rfl (lv_room (Nat.le_of_ble_eq_true rfl)) dL_law_289 ⟨by show _ + 0 ≤ 600000; omega, by show _ + 0 ≤ 7302250; omega⟩) hP hD hS hA (fun r6 w1 H locs hp hP hD hS => ?_)
  obtain ⟨I1, h7⟩ := hp
  refine lv_pop hx hb dL_law_292 rfl ?_
  refine lv_aload_n hx hb dL_law_293 rfl (lv_at hl 1 rfl) ?_
  refine lv_aload_n hx hb dL_law_294 rfl (lv_at hl 3 rfl) ?_
  refine lv_iload_n hx hb dL_law_295 rfl (lv_at hl 0 rfl) ?_
  refine lv_iconst (v := 1) hx hb dL_law_296 (by decide) ?_
  refine lv_iadd hx hb dL_law_297 ?_
  refine lv_topi (fun r8 h9 => ?_)
  have f10 : r8.toInt = x3.toInt + 1 := z_iadd h9 rfl (show Int32.toInt 1 = 1 from by decide) (by omega) (by omega)
  refine va_sld hx hb hXs hbl hbA hS (z_in rfl (by omega) (by omega)) dL_law_298 ?_
  refine lv_topi (fun a11 h12 => ?_)
  have hP : va_P (dC, dI) vwCl (w2 ++ w1) H := f_Pm List.perm_append_comm hP
  have hD : va_D (fun q : Nat => s.heap.size ≤ q) (w2 ++ w1) := f_Dm List.perm_append_comm hD
  refine f_fini (va_runV (As := [.int a11]) (rest := []) ⟨hx, hb, hml, hown, hts⟩ (q_X9_end l dC dI cB cI cJ cZ cP cQ adK adV q0 a2 H.size w2 a11 I2) (cwV 1 hts gT_X9_end rfl rfl rfl (by decide +kernel) ⟨Nat.le_of_ble_eq_true rfl, Nat.le_of_ble_eq_true rfl⟩) (f_pV (ci := 9) hE hS hA hK hP hD hX rfl (IM_recv I2)) rfl rfl hl.1 rfl (lv_room (Nat.le_of_ble_eq_true rfl)) dL_law_299 ⟨by show _ + 0 ≤ 600000; omega, by show _ + 0 ≤ 7302250; omega⟩) hP hD hS hA (fun r13 w2 H locs hp hP hD hS => ?_)
  obtain ⟨I2, h14⟩ := hp
  have hP : va_P (dC, dI) vwCl (w1 ++ w2) H := f_Pm List.perm_append_comm hP
  have hD : va_D (fun q : Nat => s.heap.size ≤ q) (w1 ++ w2) := f_Dm List.perm_append_comm hD
  refine lv_pop hx hb dL_law_302 rfl ?_
  refine lv_goto (tgt := 1615) hx hb dL_law_303 (by decide) ?_
  refine W.widen (k := cells + 18) (n := slots + 1522) (by omega) (by omega) ?_
  exact kk w1 w2 H locs ls I1 I2 hP hD hS (lv_sub hl [0, 1, 2, 3] rfl)
set_option maxHeartbeats 8000000 in
set_option maxRecDepth 100000 in
theorem law_case2 {p : Program} {e : Env} {s : State} {m : MethodId} {below : List Frame} {meth : Method} {c : Code} {b L : Nat} {xs : Nat → Int32} (l : Launch) (dC : Nat → ClassId) (dI : Nat → Nat → Nat) (cB cI cJ cZ cP cQ : ClassId) (adK adV : Nat → Nat) (q0 : Option Nat) (a1 a2 : Nat) (x3 : Int32) (C0 : lw_At p s m meth c b L xs) (hL : L ≤ 3072) (hK : va_K (dC, dI) vwCl (zT cB cI cJ cZ cP cQ) s) (hX : zX zNW zAO s) (hE : zE adK adV q0 (fun q : Nat => s.heap.size ≤ q) s s.heap) (i cells slots : Nat) (hi : x3.toInt = i) (hiL : i + 6 ≤ L) (hc : cells + 18 ≤ 600000) (hs : slots + 1522 ≤ 7302250) (w1 w2 : va_W) (I1 : IX cB cI cJ cZ cP cQ a1 w1) (I2 : IM cB cI cJ cZ cP cQ a2 w2) (H : Heap) (locs : List Loc) (hP : va_P (dC, dI) vwCl (w1 ++ w2) H) (hD : va_D (fun q : Nat => s.heap.size ≤ q) (w1 ++ w2)) (hS : va_S (fun q : Nat => s.heap.size ≤ q) s.heap H locs) (ls : Array Slot) (hl : lv_has ls 4 [(3, .int x3), (2, .ref a2), (1, .ref a1), (0, .ref b)]) (kk : ∀ (w1 w2 : va_W) (H : Heap) (locs : List Loc) (ls : Array Slot), IX cB cI cJ cZ cP cQ a1 w1 → IM cB cI cJ cZ cP cQ a2 w2 → va_P (dC, dI) vwCl (w1 ++ w2) H → va_D (fun q : Nat => s.heap.size ≤ q) (w1 ++ w2) → va_S (fun q : Nat => s.heap.size ≤ q) s.heap H locs → lv_has ls 4 [(3, .int x3), (2, .ref a2), (1, .ref a1), (0, .ref b)] → W p l e room_1 s m #[Value.ref b] below meth c H locs (cells + 18) (slots + 1522) (lw_Z below #[Value.ref b] s) (F0 m 1615 ls [])) : W p l e room_1 s m #[Value.ref b] below meth c H locs cells slots (lw_Z below #[Value.ref b] s) (F0 m 306 ls []) := by
  obtain ⟨hx, hb, hr, hml, hown, hts, hXs, hbl, hlocks, hgv⟩ := id C0
  have hown : s.vm.findClass RL = some m.cls := hown
  have hA : ∀ q : Nat, s.heap.size ≤ q → (fun q : Nat => s.heap.size ≤ q) q := fun _ h => h
  have hbA : ¬ (fun q : Nat => s.heap.size ≤ q) b := Nat.not_le.mpr hbl
  refine lv_aload_n hx hb dL_law_306 rfl (lv_at hl 2 rfl) ?_
  refine f_fini (va_runV (As := []) (rest := []) ⟨hx, hb, hml, hown, hts⟩ (q_X8_land l dC dI cB cI cJ cZ cP cQ adK adV q0 a1 H.size w1 I1) (cwV 0 hts gT_X8_land rfl rfl rfl (by decide +kernel) ⟨Nat.le_of_ble_eq_true rfl, Nat.le_of_ble_eq_true rfl⟩) (f_pV (ci := 8) hE hS hA hK hP hD hX rfl (IX_recv I1)) rfl rfl hl.1 rfl (lv_room (Nat.le_of_ble_eq_true rfl)) dL_law_307 ⟨by show _ + 0 ≤ 600000; omega, by show _ + 0 ≤ 7302250; omega⟩) hP hD hS hA (fun r1 w1 H locs hp hP hD hS => ?_)
  obtain ⟨I1, h2⟩ := hp
  refine lv_pop hx hb dL_law_310 rfl ?_
  refine lv_aload_n hx hb dL_law_311 rfl (lv_at hl 1 rfl) ?_
  have hP : va_P (dC, dI) vwCl (w2 ++ w1) H := f_Pm List.perm_append_comm hP
  have hD : va_D (fun q : Nat => s.heap.size ≤ q) (w2 ++ w1) := f_Dm List.perm_append_comm hD
  refine f_fini (va_runV (As := []) (rest := []) ⟨hx, hb, hml, hown, hts⟩ (q_X9_land l dC dI cB cI cJ cZ cP cQ adK adV q0 a2 H.size w2 I2) (cwV 0 hts gT_X9_land rfl rfl rfl (by decide +kernel) ⟨Nat.le_of_ble_eq_true rfl, Nat.le_of_ble_eq_true rfl⟩) (f_pV (ci := 9) hE hS hA hK hP hD hX rfl (IM_recv I2)) rfl rfl hl.1 rfl (lv_room (Nat.le_of_ble_eq_true rfl)) dL_law_312 ⟨by show _ + 0 ≤ 600000; omega, by show _ + 0 ≤ 7302250; omega⟩) hP hD hS hA (fun r3 w2 H locs hp hP hD hS => ?_)
  obtain ⟨I2, h4⟩ := hp
  have hP : va_P (dC, dI) vwCl (w1 ++ w2) H := f_Pm List.perm_append_comm hP
  have hD : va_D (fun q : Nat => s.heap.size ≤ q) (w1 ++ w2) := f_Dm List.perm_append_comm hD
  refine lv_pop hx hb dL_law_315 rfl ?_
  refine lv_goto (tgt := 1615) hx hb dL_law_316 (by decide) ?_
  refine W.widen (k := cells + 18) (n := slots + 1522) (by omega) (by omega) ?_
  exact kk w1 w2 H locs ls I1 I2 hP hD hS (lv_sub hl [0, 1, 2, 3] rfl)
set_option maxHeartbeats 8000000 in
set_option maxRecDepth 100000 in
theorem law_case3 {p : Program} {e : Env} {s : State} {m : MethodId} {below : List Frame} {meth : Method} {c : Code} {b L : Nat} {xs : Nat → Int32} (l : Launch) (dC : Nat → ClassId) (dI : Nat → Nat → Nat) (cB cI cJ cZ cP cQ : ClassId) (adK adV : Nat → Nat) (q0 : Option Nat) (a1 a2 : Nat) (x3 : Int32) (C0 : lw_At p s m meth c b L xs) (hL : L ≤ 3072) (hK : va_K (dC, dI) vwCl (zT cB cI cJ cZ cP cQ) s) (hX : zX zNW zAO s) (hE : zE adK adV q0 (fun q : Nat => s.heap.size ≤ q) s s.heap) (i cells slots : Nat) (hi : x3.toInt = i) (hiL : i + 6 ≤ L) (hc : cells + 18 ≤ 600000) (hs : slots + 1522 ≤ 7302250) (w1 w2 : va_W) (I1 : IX cB cI cJ cZ cP cQ a1 w1) (I2 : IM cB cI cJ cZ cP cQ a2 w2) (H : Heap) (locs : List Loc) (hP : va_P (dC, dI) vwCl (w1 ++ w2) H) (hD : va_D (fun q : Nat => s.heap.size ≤ q) (w1 ++ w2)) (hS : va_S (fun q : Nat => s.heap.size ≤ q) s.heap H locs) (ls : Array Slot) (hl : lv_has ls 4 [(3, .int x3), (2, .ref a2), (1, .ref a1), (0, .ref b)]) (kk : ∀ (w1 w2 : va_W) (H : Heap) (locs : List Loc) (ls : Array Slot), IX cB cI cJ cZ cP cQ a1 w1 → IM cB cI cJ cZ cP cQ a2 w2 → va_P (dC, dI) vwCl (w1 ++ w2) H → va_D (fun q : Nat => s.heap.size ≤ q) (w1 ++ w2) → va_S (fun q : Nat => s.heap.size ≤ q) s.heap H locs → lv_has ls 4 [(3, .int x3), (2, .ref a2), (1, .ref a1), (0, .ref b)] → W p l e room_1 s m #[Value.ref b] below meth c H locs (cells + 18) (slots + 1522) (lw_Z below #[Value.ref b] s) (F0 m 1615 ls [])) : W p l e room_1 s m #[Value.ref b] below meth c H locs cells slots (lw_Z below #[Value.ref b] s) (F0 m 319 ls []) := by
  obtain ⟨hx, hb, hr, hml, hown, hts, hXs, hbl, hlocks, hgv⟩ := id C0
  have hown : s.vm.findClass RL = some m.cls := hown
  have hA : ∀ q : Nat, s.heap.size ≤ q → (fun q : Nat => s.heap.size ≤ q) q := fun _ h => h
  have hbA : ¬ (fun q : Nat => s.heap.size ≤ q) b := Nat.not_le.mpr hbl
  refine lv_aload_n hx hb dL_law_319 rfl (lv_at hl 2 rfl) ?_
  refine lv_aload_n hx hb dL_law_320 rfl (lv_at hl 3 rfl) ?_
  refine lv_iload_n hx hb dL_law_321 rfl (lv_at hl 0 rfl) ?_
  refine lv_iconst (v := 1) hx hb dL_law_322 (by decide) ?_
  refine lv_iadd hx hb dL_law_323 ?_
  refine lv_topi (fun r1 h2 => ?_)
  have f3 : r1.toInt = x3.toInt + 1 := z_iadd h2 rfl (show Int32.toInt 1 = 1 from by decide) (by omega) (by omega)
  refine va_sld hx hb hXs hbl hbA hS (z_in rfl (by omega) (by omega)) dL_law_324 ?_
  refine lv_topi (fun a4 h5 => ?_)
  refine f_fini (va_runV (As := [.int a4]) (rest := []) ⟨hx, hb, hml, hown, hts⟩ (q_X8_fault l dC dI cB cI cJ cZ cP cQ adK adV q0 a1 H.size w1 a4 I1) (cwV 1 hts gT_X8_fault rfl rfl rfl (by decide +kernel) ⟨Nat.le_of_ble_eq_true rfl, Nat.le_of_ble_eq_true rfl⟩) (f_pV (ci := 8) hE hS hA hK hP hD hX rfl (IX_recv I1)) rfl rfl hl.1 rfl (lv_room (Nat.le_of_ble_eq_true rfl)) dL_law_325 ⟨by show _ + 0 ≤ 600000; omega, by show _ + 0 ≤ 7302250; omega⟩) hP hD hS hA (fun r6 w1 H locs hp hP hD hS => ?_)
  obtain ⟨I1, h7⟩ := hp
  refine lv_pop hx hb dL_law_328 rfl ?_
  refine lv_aload_n hx hb dL_law_329 rfl (lv_at hl 1 rfl) ?_
  refine lv_aload_n hx hb dL_law_330 rfl (lv_at hl 3 rfl) ?_
  refine lv_iload_n hx hb dL_law_331 rfl (lv_at hl 0 rfl) ?_
  refine lv_iconst (v := 1) hx hb dL_law_332 (by decide) ?_
  refine lv_iadd hx hb dL_law_333 ?_
  refine lv_topi (fun r8 h9 => ?_)
  have f10 : r8.toInt = x3.toInt + 1 := z_iadd h9 rfl (show Int32.toInt 1 = 1 from by decide) (by omega) (by omega)
  refine va_sld hx hb hXs hbl hbA hS (z_in rfl (by omega) (by omega)) dL_law_334 ?_
  refine lv_topi (fun a11 h12 => ?_)
  have hP : va_P (dC, dI) vwCl (w2 ++ w1) H := f_Pm List.perm_append_comm hP
  have hD : va_D (fun q : Nat => s.heap.size ≤ q) (w2 ++ w1) := f_Dm List.perm_append_comm hD
  refine f_fini (va_runV (As := [.int a11]) (rest := []) ⟨hx, hb, hml, hown, hts⟩ (q_X9_fault l dC dI cB cI cJ cZ cP cQ adK adV q0 a2 H.size w2 a11 I2) (cwV 1 hts gT_X9_fault rfl rfl rfl (by decide +kernel) ⟨Nat.le_of_ble_eq_true rfl, Nat.le_of_ble_eq_true rfl⟩) (f_pV (ci := 9) hE hS hA hK hP hD hX rfl (IM_recv I2)) rfl rfl hl.1 rfl (lv_room (Nat.le_of_ble_eq_true rfl)) dL_law_335 ⟨by show _ + 0 ≤ 600000; omega, by show _ + 0 ≤ 7302250; omega⟩) hP hD hS hA (fun r13 w2 H locs hp hP hD hS => ?_)
  obtain ⟨I2, h14⟩ := hp
  have hP : va_P (dC, dI) vwCl (w1 ++ w2) H := f_Pm List.perm_append_comm hP
  have hD : va_D (fun q : Nat => s.heap.size ≤ q) (w1 ++ w2) := f_Dm List.perm_append_comm hD
  refine lv_pop hx hb dL_law_338 rfl ?_
  refine lv_goto (tgt := 1615) hx hb dL_law_339 (by decide) ?_
  refine W.widen (k := cells + 18) (n := slots + 1522) (by omega) (by omega) ?_
  exact kk w1 w2 H locs ls I1 I2 hP hD hS (lv_sub hl [0, 1, 2, 3] rfl)
set_option maxHeartbeats 8000000 in
set_option maxRecDepth 100000 in
theorem law_case4 {p : Program} {e : Env} {s : State} {m : MethodId} {below : List Frame} {meth : Method} {c : Code} {b L : Nat} {xs : Nat → Int32} (l : Launch) (dC : Nat → ClassId) (dI : Nat → Nat → Nat) (cB cI cJ cZ cP cQ : ClassId) (adK adV : Nat → Nat) (q0 : Option Nat) (a1 a2 : Nat) (x3 : Int32) (C0 : lw_At p s m meth c b L xs) (hL : L ≤ 3072) (hK : va_K (dC, dI) vwCl (zT cB cI cJ cZ cP cQ) s) (hX : zX zNW zAO s) (hE : zE adK adV q0 (fun q : Nat => s.heap.size ≤ q) s s.heap) (i cells slots : Nat) (hi : x3.toInt = i) (hiL : i + 6 ≤ L) (hc : cells + 18 ≤ 600000) (hs : slots + 1522 ≤ 7302250) (w1 w2 : va_W) (I1 : IX cB cI cJ cZ cP cQ a1 w1) (I2 : IM cB cI cJ cZ cP cQ a2 w2) (H : Heap) (locs : List Loc) (hP : va_P (dC, dI) vwCl (w1 ++ w2) H) (hD : va_D (fun q : Nat => s.heap.size ≤ q) (w1 ++ w2)) (hS : va_S (fun q : Nat => s.heap.size ≤ q) s.heap H locs) (ls : Array Slot) (hl : lv_has ls 4 [(3, .int x3), (2, .ref a2), (1, .ref a1), (0, .ref b)]) (kk : ∀ (w1 w2 : va_W) (H : Heap) (locs : List Loc) (ls : Array Slot), IX cB cI cJ cZ cP cQ a1 w1 → IM cB cI cJ cZ cP cQ a2 w2 → va_P (dC, dI) vwCl (w1 ++ w2) H → va_D (fun q : Nat => s.heap.size ≤ q) (w1 ++ w2) → va_S (fun q : Nat => s.heap.size ≤ q) s.heap H locs → lv_has ls 4 [(3, .int x3), (2, .ref a2), (1, .ref a1), (0, .ref b)] → W p l e room_1 s m #[Value.ref b] below meth c H locs (cells + 18) (slots + 1522) (lw_Z below #[Value.ref b] s) (F0 m 1615 ls [])) : W p l e room_1 s m #[Value.ref b] below meth c H locs cells slots (lw_Z below #[Value.ref b] s) (F0 m 342 ls []) := by
  obtain ⟨hx, hb, hr, hml, hown, hts, hXs, hbl, hlocks, hgv⟩ := id C0
  have hown : s.vm.findClass RL = some m.cls := hown
  have hA : ∀ q : Nat, s.heap.size ≤ q → (fun q : Nat => s.heap.size ≤ q) q := fun _ h => h
  have hbA : ¬ (fun q : Nat => s.heap.size ≤ q) b := Nat.not_le.mpr hbl
  refine lv_aload_n hx hb dL_law_342 rfl (lv_at hl 2 rfl) ?_
  refine lv_aload_n hx hb dL_law_343 rfl (lv_at hl 3 rfl) ?_
  refine lv_iload_n hx hb dL_law_344 rfl (lv_at hl 0 rfl) ?_
  refine lv_iconst (v := 1) hx hb dL_law_345 (by decide) ?_
  refine lv_iadd hx hb dL_law_346 ?_
  refine lv_topi (fun r1 h2 => ?_)
  have f3 : r1.toInt = x3.toInt + 1 := z_iadd h2 rfl (show Int32.toInt 1 = 1 from by decide) (by omega) (by omega)
  refine va_sld hx hb hXs hbl hbA hS (z_in rfl (by omega) (by omega)) dL_law_347 ?_
  refine lv_topi (fun a4 h5 => ?_)
  refine lv_aload_n hx hb dL_law_348 rfl (lv_at hl 3 rfl) ?_
  refine lv_iload_n hx hb dL_law_349 rfl (lv_at hl 0 rfl) ?_
  refine lv_iconst (v := 2) hx hb dL_law_350 (by decide) ?_
  refine lv_iadd hx hb dL_law_351 ?_
  refine lv_topi (fun r6 h7 => ?_)
  have f8 : r6.toInt = x3.toInt + 2 := z_iadd h7 rfl (show Int32.toInt 2 = 2 from by decide) (by omega) (by omega)
  refine va_sld hx hb hXs hbl hbA hS (z_in rfl (by omega) (by omega)) dL_law_352 ?_
  refine lv_topi (fun a9 h10 => ?_)
  refine f_fini (va_runV (As := [.int a4, .int a9]) (rest := []) ⟨hx, hb, hml, hown, hts⟩ (q_X8_forced l dC dI cB cI cJ cZ cP cQ adK adV q0 a1 H.size w1 a4 a9 I1) (cwV 2 hts gT_X8_forced rfl rfl rfl (by decide +kernel) ⟨Nat.le_of_ble_eq_true rfl, Nat.le_of_ble_eq_true rfl⟩) (f_pV (ci := 8) hE hS hA hK hP hD hX rfl (IX_recv I1)) rfl rfl hl.1 rfl (lv_room (Nat.le_of_ble_eq_true rfl)) dL_law_353 ⟨by show _ + 0 ≤ 600000; omega, by show _ + 0 ≤ 7302250; omega⟩) hP hD hS hA (fun r11 w1 H locs hp hP hD hS => ?_)
  obtain ⟨I1, h12⟩ := hp
  refine lv_pop hx hb dL_law_356 rfl ?_
  refine lv_aload_n hx hb dL_law_357 rfl (lv_at hl 1 rfl) ?_
  refine lv_aload_n hx hb dL_law_358 rfl (lv_at hl 3 rfl) ?_
  refine lv_iload_n hx hb dL_law_359 rfl (lv_at hl 0 rfl) ?_
  refine lv_iconst (v := 1) hx hb dL_law_360 (by decide) ?_
  refine lv_iadd hx hb dL_law_361 ?_
  refine lv_topi (fun r13 h14 => ?_)
  have f15 : r13.toInt = x3.toInt + 1 := z_iadd h14 rfl (show Int32.toInt 1 = 1 from by decide) (by omega) (by omega)
  refine va_sld hx hb hXs hbl hbA hS (z_in rfl (by omega) (by omega)) dL_law_362 ?_
  refine lv_topi (fun a16 h17 => ?_)
  refine lv_aload_n hx hb dL_law_363 rfl (lv_at hl 3 rfl) ?_
  refine lv_iload_n hx hb dL_law_364 rfl (lv_at hl 0 rfl) ?_
  refine lv_iconst (v := 2) hx hb dL_law_365 (by decide) ?_
  refine lv_iadd hx hb dL_law_366 ?_
  refine lv_topi (fun r18 h19 => ?_)
  have f20 : r18.toInt = x3.toInt + 2 := z_iadd h19 rfl (show Int32.toInt 2 = 2 from by decide) (by omega) (by omega)
  refine va_sld hx hb hXs hbl hbA hS (z_in rfl (by omega) (by omega)) dL_law_367 ?_
  refine lv_topi (fun a21 h22 => ?_)
  have hP : va_P (dC, dI) vwCl (w2 ++ w1) H := f_Pm List.perm_append_comm hP
  have hD : va_D (fun q : Nat => s.heap.size ≤ q) (w2 ++ w1) := f_Dm List.perm_append_comm hD
  refine f_fini (va_runV (As := [.int a16, .int a21]) (rest := []) ⟨hx, hb, hml, hown, hts⟩ (q_X9_forced l dC dI cB cI cJ cZ cP cQ adK adV q0 a2 H.size w2 a16 a21 I2) (cwV 2 hts gT_X9_forced rfl rfl rfl (by decide +kernel) ⟨Nat.le_of_ble_eq_true rfl, Nat.le_of_ble_eq_true rfl⟩) (f_pV (ci := 9) hE hS hA hK hP hD hX rfl (IM_recv I2)) rfl rfl hl.1 rfl (lv_room (Nat.le_of_ble_eq_true rfl)) dL_law_368 ⟨by show _ + 0 ≤ 600000; omega, by show _ + 0 ≤ 7302250; omega⟩) hP hD hS hA (fun r23 w2 H locs hp hP hD hS => ?_)
  obtain ⟨I2, h24⟩ := hp
  have hP : va_P (dC, dI) vwCl (w1 ++ w2) H := f_Pm List.perm_append_comm hP
  have hD : va_D (fun q : Nat => s.heap.size ≤ q) (w1 ++ w2) := f_Dm List.perm_append_comm hD
  refine lv_pop hx hb dL_law_371 rfl ?_
  refine lv_goto (tgt := 1615) hx hb dL_law_372 (by decide) ?_
  refine W.widen (k := cells + 18) (n := slots + 1522) (by omega) (by omega) ?_
  exact kk w1 w2 H locs ls I1 I2 hP hD hS (lv_sub hl [0, 1, 2, 3] rfl)
set_option maxHeartbeats 8000000 in
set_option maxRecDepth 100000 in
theorem law_case5 {p : Program} {e : Env} {s : State} {m : MethodId} {below : List Frame} {meth : Method} {c : Code} {b L : Nat} {xs : Nat → Int32} (l : Launch) (dC : Nat → ClassId) (dI : Nat → Nat → Nat) (cB cI cJ cZ cP cQ : ClassId) (adK adV : Nat → Nat) (q0 : Option Nat) (a1 a2 : Nat) (x3 : Int32) (C0 : lw_At p s m meth c b L xs) (hL : L ≤ 3072) (hK : va_K (dC, dI) vwCl (zT cB cI cJ cZ cP cQ) s) (hX : zX zNW zAO s) (hE : zE adK adV q0 (fun q : Nat => s.heap.size ≤ q) s s.heap) (i cells slots : Nat) (hi : x3.toInt = i) (hiL : i + 6 ≤ L) (hc : cells + 18 ≤ 600000) (hs : slots + 1522 ≤ 7302250) (w1 w2 : va_W) (I1 : IX cB cI cJ cZ cP cQ a1 w1) (I2 : IM cB cI cJ cZ cP cQ a2 w2) (H : Heap) (locs : List Loc) (hP : va_P (dC, dI) vwCl (w1 ++ w2) H) (hD : va_D (fun q : Nat => s.heap.size ≤ q) (w1 ++ w2)) (hS : va_S (fun q : Nat => s.heap.size ≤ q) s.heap H locs) (ls : Array Slot) (hl : lv_has ls 4 [(3, .int x3), (2, .ref a2), (1, .ref a1), (0, .ref b)]) (kk : ∀ (w1 w2 : va_W) (H : Heap) (locs : List Loc) (ls : Array Slot), IX cB cI cJ cZ cP cQ a1 w1 → IM cB cI cJ cZ cP cQ a2 w2 → va_P (dC, dI) vwCl (w1 ++ w2) H → va_D (fun q : Nat => s.heap.size ≤ q) (w1 ++ w2) → va_S (fun q : Nat => s.heap.size ≤ q) s.heap H locs → lv_has ls 4 [(3, .int x3), (2, .ref a2), (1, .ref a1), (0, .ref b)] → W p l e room_1 s m #[Value.ref b] below meth c H locs (cells + 18) (slots + 1522) (lw_Z below #[Value.ref b] s) (F0 m 1615 ls [])) : W p l e room_1 s m #[Value.ref b] below meth c H locs cells slots (lw_Z below #[Value.ref b] s) (F0 m 375 ls []) := by
  obtain ⟨hx, hb, hr, hml, hown, hts, hXs, hbl, hlocks, hgv⟩ := id C0
  have hown : s.vm.findClass RL = some m.cls := hown
  have hA : ∀ q : Nat, s.heap.size ≤ q → (fun q : Nat => s.heap.size ≤ q) q := fun _ h => h
  have hbA : ¬ (fun q : Nat => s.heap.size ≤ q) b := Nat.not_le.mpr hbl
  refine lv_aload_n hx hb dL_law_375 rfl (lv_at hl 2 rfl) ?_
  refine lv_aload_n hx hb dL_law_376 rfl (lv_at hl 3 rfl) ?_
  refine lv_iload_n hx hb dL_law_377 rfl (lv_at hl 0 rfl) ?_
  refine lv_iconst (v := 1) hx hb dL_law_378 (by decide) ?_
  refine lv_iadd hx hb dL_law_379 ?_
  refine lv_topi (fun r1 h2 => ?_)
  have f3 : r1.toInt = x3.toInt + 1 := z_iadd h2 rfl (show Int32.toInt 1 = 1 from by decide) (by omega) (by omega)
  refine va_sld hx hb hXs hbl hbA hS (z_in rfl (by omega) (by omega)) dL_law_380 ?_
  refine lv_topi (fun a4 h5 => ?_)
  refine lv_aload_n hx hb dL_law_381 rfl (lv_at hl 3 rfl) ?_
  refine lv_iload_n hx hb dL_law_382 rfl (lv_at hl 0 rfl) ?_
  refine lv_iconst (v := 2) hx hb dL_law_383 (by decide) ?_
  refine lv_iadd hx hb dL_law_384 ?_
  refine lv_topi (fun r6 h7 => ?_)
  have f8 : r6.toInt = x3.toInt + 2 := z_iadd h7 rfl (show Int32.toInt 2 = 2 from by decide) (by omega) (by omega)
  refine va_sld hx hb hXs hbl hbA hS (z_in rfl (by omega) (by omega)) dL_law_385 ?_
  refine lv_topi (fun a9 h10 => ?_)
  refine f_fini (va_runV (As := [.int a4, .int a9]) (rest := []) ⟨hx, hb, hml, hown, hts⟩ (q_X8_old l dC dI cB cI cJ cZ cP cQ adK adV q0 a1 H.size w1 a4 a9 I1) (cwV 2 hts gT_X8_old rfl rfl rfl (by decide +kernel) ⟨Nat.le_of_ble_eq_true rfl, Nat.le_of_ble_eq_true rfl⟩) (f_pV (ci := 8) hE hS hA hK hP hD hX rfl (IX_recv I1)) rfl rfl hl.1 rfl (lv_room (Nat.le_of_ble_eq_true rfl)) dL_law_386 ⟨by show _ + 0 ≤ 600000; omega, by show _ + 0 ≤ 7302250; omega⟩) hP hD hS hA (fun r11 w1 H locs hp hP hD hS => ?_)
  obtain ⟨I1, h12⟩ := hp
  refine lv_pop hx hb dL_law_389 rfl ?_
  refine lv_aload_n hx hb dL_law_390 rfl (lv_at hl 1 rfl) ?_
  refine lv_aload_n hx hb dL_law_391 rfl (lv_at hl 3 rfl) ?_
  refine lv_iload_n hx hb dL_law_392 rfl (lv_at hl 0 rfl) ?_
  refine lv_iconst (v := 1) hx hb dL_law_393 (by decide) ?_
  refine lv_iadd hx hb dL_law_394 ?_
  refine lv_topi (fun r13 h14 => ?_)
  have f15 : r13.toInt = x3.toInt + 1 := z_iadd h14 rfl (show Int32.toInt 1 = 1 from by decide) (by omega) (by omega)
  refine va_sld hx hb hXs hbl hbA hS (z_in rfl (by omega) (by omega)) dL_law_395 ?_
  refine lv_topi (fun a16 h17 => ?_)
  refine lv_aload_n hx hb dL_law_396 rfl (lv_at hl 3 rfl) ?_
  refine lv_iload_n hx hb dL_law_397 rfl (lv_at hl 0 rfl) ?_
  refine lv_iconst (v := 2) hx hb dL_law_398 (by decide) ?_
  refine lv_iadd hx hb dL_law_399 ?_
  refine lv_topi (fun r18 h19 => ?_)
  have f20 : r18.toInt = x3.toInt + 2 := z_iadd h19 rfl (show Int32.toInt 2 = 2 from by decide) (by omega) (by omega)
  refine va_sld hx hb hXs hbl hbA hS (z_in rfl (by omega) (by omega)) dL_law_400 ?_
  refine lv_topi (fun a21 h22 => ?_)
  have hP : va_P (dC, dI) vwCl (w2 ++ w1) H := f_Pm List.perm_append_comm hP
  have hD : va_D (fun q : Nat => s.heap.size ≤ q) (w2 ++ w1) := f_Dm List.perm_append_comm hD
  refine f_fini (va_runV (As := [.int a16, .int a21]) (rest := []) ⟨hx, hb, hml, hown, hts⟩ (q_X9_old l dC dI cB cI cJ cZ cP cQ adK adV q0 a2 H.size w2 a16 a21 I2) (cwV 2 hts gT_X9_old rfl rfl rfl (by decide +kernel) ⟨Nat.le_of_ble_eq_true rfl, Nat.le_of_ble_eq_true rfl⟩) (f_pV (ci := 9) hE hS hA hK hP hD hX rfl (IM_recv I2)) rfl rfl hl.1 rfl (lv_room (Nat.le_of_ble_eq_true rfl)) dL_law_401 ⟨by show _ + 0 ≤ 600000; omega, by show _ + 0 ≤ 7302250; omega⟩) hP hD hS hA (fun r23 w2 H locs hp hP hD hS => ?_)
  obtain ⟨I2, h24⟩ := hp
  have hP : va_P (dC, dI) vwCl (w1 ++ w2) H := f_Pm List.perm_append_comm hP
  have hD : va_D (fun q : Nat => s.heap.size ≤ q) (w1 ++ w2) := f_Dm List.perm_append_comm hD
  refine lv_pop hx hb dL_law_404 rfl ?_
  refine lv_goto (tgt := 1615) hx hb dL_law_405 (by decide) ?_
  refine W.widen (k := cells + 18) (n := slots + 1522) (by omega) (by omega) ?_
  exact kk w1 w2 H locs ls I1 I2 hP hD hS (lv_sub hl [0, 1, 2, 3] rfl)
set_option maxHeartbeats 8000000 in
set_option maxRecDepth 100000 in
theorem law_case6 {p : Program} {e : Env} {s : State} {m : MethodId} {below : List Frame} {meth : Method} {c : Code} {b L : Nat} {xs : Nat → Int32} (l : Launch) (dC : Nat → ClassId) (dI : Nat → Nat → Nat) (cB cI cJ cZ cP cQ : ClassId) (adK adV : Nat → Nat) (q0 : Option Nat) (a1 a2 : Nat) (x3 : Int32) (C0 : lw_At p s m meth c b L xs) (hL : L ≤ 3072) (hK : va_K (dC, dI) vwCl (zT cB cI cJ cZ cP cQ) s) (hX : zX zNW zAO s) (hE : zE adK adV q0 (fun q : Nat => s.heap.size ≤ q) s s.heap) (i cells slots : Nat) (hi : x3.toInt = i) (hiL : i + 6 ≤ L) (hc : cells + 18 ≤ 600000) (hs : slots + 1522 ≤ 7302250) (w1 w2 : va_W) (I1 : IX cB cI cJ cZ cP cQ a1 w1) (I2 : IM cB cI cJ cZ cP cQ a2 w2) (H : Heap) (locs : List Loc) (hP : va_P (dC, dI) vwCl (w1 ++ w2) H) (hD : va_D (fun q : Nat => s.heap.size ≤ q) (w1 ++ w2)) (hS : va_S (fun q : Nat => s.heap.size ≤ q) s.heap H locs) (ls : Array Slot) (hl : lv_has ls 4 [(3, .int x3), (2, .ref a2), (1, .ref a1), (0, .ref b)]) (kk : ∀ (w1 w2 : va_W) (H : Heap) (locs : List Loc) (ls : Array Slot), IX cB cI cJ cZ cP cQ a1 w1 → IM cB cI cJ cZ cP cQ a2 w2 → va_P (dC, dI) vwCl (w1 ++ w2) H → va_D (fun q : Nat => s.heap.size ≤ q) (w1 ++ w2) → va_S (fun q : Nat => s.heap.size ≤ q) s.heap H locs → lv_has ls 4 [(3, .int x3), (2, .ref a2), (1, .ref a1), (0, .ref b)] → W p l e room_1 s m #[Value.ref b] below meth c H locs (cells + 18) (slots + 1522) (lw_Z below #[Value.ref b] s) (F0 m 1615 ls [])) : W p l e room_1 s m #[Value.ref b] below meth c H locs cells slots (lw_Z below #[Value.ref b] s) (F0 m 408 ls []) := by
  obtain ⟨hx, hb, hr, hml, hown, hts, hXs, hbl, hlocks, hgv⟩ := id C0
  have hown : s.vm.findClass RL = some m.cls := hown
  have hA : ∀ q : Nat, s.heap.size ≤ q → (fun q : Nat => s.heap.size ≤ q) q := fun _ h => h
  have hbA : ¬ (fun q : Nat => s.heap.size ≤ q) b := Nat.not_le.mpr hbl
  refine lv_aload_n hx hb dL_law_408 rfl (lv_at hl 2 rfl) ?_
  refine lv_aload_n hx hb dL_law_409 rfl (lv_at hl 3 rfl) ?_
  refine lv_iload_n hx hb dL_law_410 rfl (lv_at hl 0 rfl) ?_
  refine lv_iconst (v := 1) hx hb dL_law_411 (by decide) ?_
  refine lv_iadd hx hb dL_law_412 ?_
  refine lv_topi (fun r1 h2 => ?_)
  have f3 : r1.toInt = x3.toInt + 1 := z_iadd h2 rfl (show Int32.toInt 1 = 1 from by decide) (by omega) (by omega)
  refine va_sld hx hb hXs hbl hbA hS (z_in rfl (by omega) (by omega)) dL_law_413 ?_
  refine lv_topi (fun a4 h5 => ?_)
  refine lv_aload_n hx hb dL_law_414 rfl (lv_at hl 3 rfl) ?_
  refine lv_iload_n hx hb dL_law_415 rfl (lv_at hl 0 rfl) ?_
  refine lv_iconst (v := 2) hx hb dL_law_416 (by decide) ?_
  refine lv_iadd hx hb dL_law_417 ?_
  refine lv_topi (fun r6 h7 => ?_)
  have f8 : r6.toInt = x3.toInt + 2 := z_iadd h7 rfl (show Int32.toInt 2 = 2 from by decide) (by omega) (by omega)
  refine va_sld hx hb hXs hbl hbA hS (z_in rfl (by omega) (by omega)) dL_law_418 ?_
  refine lv_topi (fun a9 h10 => ?_)
  refine lv_aload_n hx hb dL_law_419 rfl (lv_at hl 3 rfl) ?_
  refine lv_iload_n hx hb dL_law_420 rfl (lv_at hl 0 rfl) ?_
  refine lv_iconst (v := 3) hx hb dL_law_421 (by decide) ?_
  refine lv_iadd hx hb dL_law_422 ?_
  refine lv_topi (fun r11 h12 => ?_)
  have f13 : r11.toInt = x3.toInt + 3 := z_iadd h12 rfl (show Int32.toInt 3 = 3 from by decide) (by omega) (by omega)
  refine va_sld hx hb hXs hbl hbA hS (z_in rfl (by omega) (by omega)) dL_law_423 ?_
  refine lv_topi (fun a14 h15 => ?_)
  refine lv_aload_n hx hb dL_law_424 rfl (lv_at hl 3 rfl) ?_
  refine lv_iload_n hx hb dL_law_425 rfl (lv_at hl 0 rfl) ?_
  refine lv_iconst (v := 4) hx hb dL_law_426 (by decide) ?_
  refine lv_iadd hx hb dL_law_427 ?_
  refine lv_topi (fun r16 h17 => ?_)
  have f18 : r16.toInt = x3.toInt + 4 := z_iadd h17 rfl (show Int32.toInt 4 = 4 from by decide) (by omega) (by omega)
  refine va_sld hx hb hXs hbl hbA hS (z_in rfl (by omega) (by omega)) dL_law_428 ?_
  refine lv_topi (fun a19 h20 => ?_)
  refine f_fini (va_runV (As := [.int a4, .int a9, .int a14, .int a19]) (rest := []) ⟨hx, hb, hml, hown, hts⟩ (q_X8_wage l dC dI cB cI cJ cZ cP cQ adK adV q0 a1 H.size w1 a4 a9 a14 a19 I1) (cwV 4 hts gT_X8_wage rfl rfl rfl (by decide +kernel) ⟨Nat.le_of_ble_eq_true rfl, Nat.le_of_ble_eq_true rfl⟩) (f_pV (ci := 8) hE hS hA hK hP hD hX rfl (IX_recv I1)) rfl rfl hl.1 rfl (lv_room (Nat.le_of_ble_eq_true rfl)) dL_law_429 ⟨by show _ + 0 ≤ 600000; omega, by show _ + 0 ≤ 7302250; omega⟩) hP hD hS hA (fun r21 w1 H locs hp hP hD hS => ?_)
  obtain ⟨I1, h22⟩ := hp
  refine lv_pop hx hb dL_law_432 rfl ?_
  refine lv_aload_n hx hb dL_law_433 rfl (lv_at hl 1 rfl) ?_
  refine lv_aload_n hx hb dL_law_434 rfl (lv_at hl 3 rfl) ?_
  refine lv_iload_n hx hb dL_law_435 rfl (lv_at hl 0 rfl) ?_
  refine lv_iconst (v := 1) hx hb dL_law_436 (by decide) ?_
  refine lv_iadd hx hb dL_law_437 ?_
  refine lv_topi (fun r23 h24 => ?_)
  have f25 : r23.toInt = x3.toInt + 1 := z_iadd h24 rfl (show Int32.toInt 1 = 1 from by decide) (by omega) (by omega)
  refine va_sld hx hb hXs hbl hbA hS (z_in rfl (by omega) (by omega)) dL_law_438 ?_
  refine lv_topi (fun a26 h27 => ?_)
  refine lv_aload_n hx hb dL_law_439 rfl (lv_at hl 3 rfl) ?_
  refine lv_iload_n hx hb dL_law_440 rfl (lv_at hl 0 rfl) ?_
  refine lv_iconst (v := 2) hx hb dL_law_441 (by decide) ?_
  refine lv_iadd hx hb dL_law_442 ?_
  refine lv_topi (fun r28 h29 => ?_)
  have f30 : r28.toInt = x3.toInt + 2 := z_iadd h29 rfl (show Int32.toInt 2 = 2 from by decide) (by omega) (by omega)
  refine va_sld hx hb hXs hbl hbA hS (z_in rfl (by omega) (by omega)) dL_law_443 ?_
  refine lv_topi (fun a31 h32 => ?_)
  refine lv_aload_n hx hb dL_law_444 rfl (lv_at hl 3 rfl) ?_
  refine lv_iload_n hx hb dL_law_445 rfl (lv_at hl 0 rfl) ?_
  refine lv_iconst (v := 3) hx hb dL_law_446 (by decide) ?_
  refine lv_iadd hx hb dL_law_447 ?_
  refine lv_topi (fun r33 h34 => ?_)
  have f35 : r33.toInt = x3.toInt + 3 := z_iadd h34 rfl (show Int32.toInt 3 = 3 from by decide) (by omega) (by omega)
  refine va_sld hx hb hXs hbl hbA hS (z_in rfl (by omega) (by omega)) dL_law_448 ?_
  refine lv_topi (fun a36 h37 => ?_)
  refine lv_aload_n hx hb dL_law_449 rfl (lv_at hl 3 rfl) ?_
  refine lv_iload_n hx hb dL_law_450 rfl (lv_at hl 0 rfl) ?_
  refine lv_iconst (v := 4) hx hb dL_law_451 (by decide) ?_
  refine lv_iadd hx hb dL_law_452 ?_
  refine lv_topi (fun r38 h39 => ?_)
  have f40 : r38.toInt = x3.toInt + 4 := z_iadd h39 rfl (show Int32.toInt 4 = 4 from by decide) (by omega) (by omega)
  refine va_sld hx hb hXs hbl hbA hS (z_in rfl (by omega) (by omega)) dL_law_453 ?_
  refine lv_topi (fun a41 h42 => ?_)
  have hP : va_P (dC, dI) vwCl (w2 ++ w1) H := f_Pm List.perm_append_comm hP
  have hD : va_D (fun q : Nat => s.heap.size ≤ q) (w2 ++ w1) := f_Dm List.perm_append_comm hD
  refine f_fini (va_runV (As := [.int a26, .int a31, .int a36, .int a41]) (rest := []) ⟨hx, hb, hml, hown, hts⟩ (q_X9_wage l dC dI cB cI cJ cZ cP cQ adK adV q0 a2 H.size w2 a26 a31 a36 a41 I2) (cwV 4 hts gT_X9_wage rfl rfl rfl (by decide +kernel) ⟨Nat.le_of_ble_eq_true rfl, Nat.le_of_ble_eq_true rfl⟩) (f_pV (ci := 9) hE hS hA hK hP hD hX rfl (IM_recv I2)) rfl rfl hl.1 rfl (lv_room (Nat.le_of_ble_eq_true rfl)) dL_law_454 ⟨by show _ + 0 ≤ 600000; omega, by show _ + 0 ≤ 7302250; omega⟩) hP hD hS hA (fun r43 w2 H locs hp hP hD hS => ?_)
  obtain ⟨I2, h44⟩ := hp
  have hP : va_P (dC, dI) vwCl (w1 ++ w2) H := f_Pm List.perm_append_comm hP
  have hD : va_D (fun q : Nat => s.heap.size ≤ q) (w1 ++ w2) := f_Dm List.perm_append_comm hD
  refine lv_pop hx hb dL_law_457 rfl ?_
  refine lv_goto (tgt := 1615) hx hb dL_law_458 (by decide) ?_
  refine W.widen (k := cells + 18) (n := slots + 1522) (by omega) (by omega) ?_
  exact kk w1 w2 H locs ls I1 I2 hP hD hS (lv_sub hl [0, 1, 2, 3] rfl)
set_option maxHeartbeats 8000000 in
set_option maxRecDepth 100000 in
theorem law_case7 {p : Program} {e : Env} {s : State} {m : MethodId} {below : List Frame} {meth : Method} {c : Code} {b L : Nat} {xs : Nat → Int32} (l : Launch) (dC : Nat → ClassId) (dI : Nat → Nat → Nat) (cB cI cJ cZ cP cQ : ClassId) (adK adV : Nat → Nat) (q0 : Option Nat) (a1 a2 : Nat) (x3 : Int32) (C0 : lw_At p s m meth c b L xs) (hL : L ≤ 3072) (hK : va_K (dC, dI) vwCl (zT cB cI cJ cZ cP cQ) s) (hX : zX zNW zAO s) (hE : zE adK adV q0 (fun q : Nat => s.heap.size ≤ q) s s.heap) (i cells slots : Nat) (hi : x3.toInt = i) (hiL : i + 6 ≤ L) (hc : cells + 18 ≤ 600000) (hs : slots + 1522 ≤ 7302250) (w1 w2 : va_W) (I1 : IX cB cI cJ cZ cP cQ a1 w1) (I2 : IM cB cI cJ cZ cP cQ a2 w2) (H : Heap) (locs : List Loc) (hP : va_P (dC, dI) vwCl (w1 ++ w2) H) (hD : va_D (fun q : Nat => s.heap.size ≤ q) (w1 ++ w2)) (hS : va_S (fun q : Nat => s.heap.size ≤ q) s.heap H locs) (ls : Array Slot) (hl : lv_has ls 4 [(3, .int x3), (2, .ref a2), (1, .ref a1), (0, .ref b)]) (kk : ∀ (w1 w2 : va_W) (H : Heap) (locs : List Loc) (ls : Array Slot), IX cB cI cJ cZ cP cQ a1 w1 → IM cB cI cJ cZ cP cQ a2 w2 → va_P (dC, dI) vwCl (w1 ++ w2) H → va_D (fun q : Nat => s.heap.size ≤ q) (w1 ++ w2) → va_S (fun q : Nat => s.heap.size ≤ q) s.heap H locs → lv_has ls 4 [(3, .int x3), (2, .ref a2), (1, .ref a1), (0, .ref b)] → W p l e room_1 s m #[Value.ref b] below meth c H locs (cells + 18) (slots + 1522) (lw_Z below #[Value.ref b] s) (F0 m 1615 ls [])) : W p l e room_1 s m #[Value.ref b] below meth c H locs cells slots (lw_Z below #[Value.ref b] s) (F0 m 461 ls []) := by
  obtain ⟨hx, hb, hr, hml, hown, hts, hXs, hbl, hlocks, hgv⟩ := id C0
  have hown : s.vm.findClass RL = some m.cls := hown
  have hA : ∀ q : Nat, s.heap.size ≤ q → (fun q : Nat => s.heap.size ≤ q) q := fun _ h => h
  have hbA : ¬ (fun q : Nat => s.heap.size ≤ q) b := Nat.not_le.mpr hbl
  refine lv_aload_n hx hb dL_law_461 rfl (lv_at hl 2 rfl) ?_
  refine lv_aload_n hx hb dL_law_462 rfl (lv_at hl 3 rfl) ?_
  refine lv_iload_n hx hb dL_law_463 rfl (lv_at hl 0 rfl) ?_
  refine lv_iconst (v := 1) hx hb dL_law_464 (by decide) ?_
  refine lv_iadd hx hb dL_law_465 ?_
  refine lv_topi (fun r1 h2 => ?_)
  have f3 : r1.toInt = x3.toInt + 1 := z_iadd h2 rfl (show Int32.toInt 1 = 1 from by decide) (by omega) (by omega)
  refine va_sld hx hb hXs hbl hbA hS (z_in rfl (by omega) (by omega)) dL_law_466 ?_
  refine lv_topi (fun a4 h5 => ?_)
  refine lv_aload_n hx hb dL_law_467 rfl (lv_at hl 3 rfl) ?_
  refine lv_iload_n hx hb dL_law_468 rfl (lv_at hl 0 rfl) ?_
  refine lv_iconst (v := 2) hx hb dL_law_469 (by decide) ?_
  refine lv_iadd hx hb dL_law_470 ?_
  refine lv_topi (fun r6 h7 => ?_)
  have f8 : r6.toInt = x3.toInt + 2 := z_iadd h7 rfl (show Int32.toInt 2 = 2 from by decide) (by omega) (by omega)
  refine va_sld hx hb hXs hbl hbA hS (z_in rfl (by omega) (by omega)) dL_law_471 ?_
  refine lv_topi (fun a9 h10 => ?_)
  refine f_fini (va_runV (As := [.int a4, .int a9]) (rest := []) ⟨hx, hb, hml, hown, hts⟩ (q_X8_draw l dC dI cB cI cJ cZ cP cQ adK adV q0 a1 H.size w1 a4 a9 I1) (cwV 2 hts gT_X8_draw rfl rfl rfl (by decide +kernel) ⟨Nat.le_of_ble_eq_true rfl, Nat.le_of_ble_eq_true rfl⟩) (f_pV (ci := 8) hE hS hA hK hP hD hX rfl (IX_recv I1)) rfl rfl hl.1 rfl (lv_room (Nat.le_of_ble_eq_true rfl)) dL_law_472 ⟨by show _ + 0 ≤ 600000; omega, by show _ + 0 ≤ 7302250; omega⟩) hP hD hS hA (fun r11 w1 H locs hp hP hD hS => ?_)
  obtain ⟨I1, h12⟩ := hp
  refine lv_pop hx hb dL_law_475 rfl ?_
  refine lv_aload_n hx hb dL_law_476 rfl (lv_at hl 1 rfl) ?_
  refine lv_aload_n hx hb dL_law_477 rfl (lv_at hl 3 rfl) ?_
  refine lv_iload_n hx hb dL_law_478 rfl (lv_at hl 0 rfl) ?_
  refine lv_iconst (v := 1) hx hb dL_law_479 (by decide) ?_
  refine lv_iadd hx hb dL_law_480 ?_
  refine lv_topi (fun r13 h14 => ?_)
  have f15 : r13.toInt = x3.toInt + 1 := z_iadd h14 rfl (show Int32.toInt 1 = 1 from by decide) (by omega) (by omega)
  refine va_sld hx hb hXs hbl hbA hS (z_in rfl (by omega) (by omega)) dL_law_481 ?_
  refine lv_topi (fun a16 h17 => ?_)
  refine lv_aload_n hx hb dL_law_482 rfl (lv_at hl 3 rfl) ?_
  refine lv_iload_n hx hb dL_law_483 rfl (lv_at hl 0 rfl) ?_
  refine lv_iconst (v := 2) hx hb dL_law_484 (by decide) ?_
  refine lv_iadd hx hb dL_law_485 ?_
  refine lv_topi (fun r18 h19 => ?_)
  have f20 : r18.toInt = x3.toInt + 2 := z_iadd h19 rfl (show Int32.toInt 2 = 2 from by decide) (by omega) (by omega)
  refine va_sld hx hb hXs hbl hbA hS (z_in rfl (by omega) (by omega)) dL_law_486 ?_
  refine lv_topi (fun a21 h22 => ?_)
  have hP : va_P (dC, dI) vwCl (w2 ++ w1) H := f_Pm List.perm_append_comm hP
  have hD : va_D (fun q : Nat => s.heap.size ≤ q) (w2 ++ w1) := f_Dm List.perm_append_comm hD
  refine f_fini (va_runV (As := [.int a16, .int a21]) (rest := []) ⟨hx, hb, hml, hown, hts⟩ (q_X9_draw l dC dI cB cI cJ cZ cP cQ adK adV q0 a2 H.size w2 a16 a21 I2) (cwV 2 hts gT_X9_draw rfl rfl rfl (by decide +kernel) ⟨Nat.le_of_ble_eq_true rfl, Nat.le_of_ble_eq_true rfl⟩) (f_pV (ci := 9) hE hS hA hK hP hD hX rfl (IM_recv I2)) rfl rfl hl.1 rfl (lv_room (Nat.le_of_ble_eq_true rfl)) dL_law_487 ⟨by show _ + 0 ≤ 600000; omega, by show _ + 0 ≤ 7302250; omega⟩) hP hD hS hA (fun r23 w2 H locs hp hP hD hS => ?_)
  obtain ⟨I2, h24⟩ := hp
  have hP : va_P (dC, dI) vwCl (w1 ++ w2) H := f_Pm List.perm_append_comm hP
  have hD : va_D (fun q : Nat => s.heap.size ≤ q) (w1 ++ w2) := f_Dm List.perm_append_comm hD
  refine lv_pop hx hb dL_law_490 rfl ?_
  refine lv_goto (tgt := 1615) hx hb dL_law_491 (by decide) ?_
  refine W.widen (k := cells + 18) (n := slots + 1522) (by omega) (by omega) ?_
  exact kk w1 w2 H locs ls I1 I2 hP hD hS (lv_sub hl [0, 1, 2, 3] rfl)
set_option maxHeartbeats 8000000 in
set_option maxRecDepth 100000 in
theorem law_case8 {p : Program} {e : Env} {s : State} {m : MethodId} {below : List Frame} {meth : Method} {c : Code} {b L : Nat} {xs : Nat → Int32} (l : Launch) (dC : Nat → ClassId) (dI : Nat → Nat → Nat) (cB cI cJ cZ cP cQ : ClassId) (adK adV : Nat → Nat) (q0 : Option Nat) (a1 a2 : Nat) (x3 : Int32) (C0 : lw_At p s m meth c b L xs) (hL : L ≤ 3072) (hK : va_K (dC, dI) vwCl (zT cB cI cJ cZ cP cQ) s) (hX : zX zNW zAO s) (hE : zE adK adV q0 (fun q : Nat => s.heap.size ≤ q) s s.heap) (i cells slots : Nat) (hi : x3.toInt = i) (hiL : i + 6 ≤ L) (hc : cells + 18 ≤ 600000) (hs : slots + 1522 ≤ 7302250) (w1 w2 : va_W) (I1 : IX cB cI cJ cZ cP cQ a1 w1) (I2 : IM cB cI cJ cZ cP cQ a2 w2) (H : Heap) (locs : List Loc) (hP : va_P (dC, dI) vwCl (w1 ++ w2) H) (hD : va_D (fun q : Nat => s.heap.size ≤ q) (w1 ++ w2)) (hS : va_S (fun q : Nat => s.heap.size ≤ q) s.heap H locs) (ls : Array Slot) (hl : lv_has ls 4 [(3, .int x3), (2, .ref a2), (1, .ref a1), (0, .ref b)]) (kk : ∀ (w1 w2 : va_W) (H : Heap) (locs : List Loc) (ls : Array Slot), IX cB cI cJ cZ cP cQ a1 w1 → IM cB cI cJ cZ cP cQ a2 w2 → va_P (dC, dI) vwCl (w1 ++ w2) H → va_D (fun q : Nat => s.heap.size ≤ q) (w1 ++ w2) → va_S (fun q : Nat => s.heap.size ≤ q) s.heap H locs → lv_has ls 4 [(3, .int x3), (2, .ref a2), (1, .ref a1), (0, .ref b)] → W p l e room_1 s m #[Value.ref b] below meth c H locs (cells + 18) (slots + 1522) (lw_Z below #[Value.ref b] s) (F0 m 1615 ls [])) : W p l e room_1 s m #[Value.ref b] below meth c H locs cells slots (lw_Z below #[Value.ref b] s) (F0 m 494 ls []) := by
  obtain ⟨hx, hb, hr, hml, hown, hts, hXs, hbl, hlocks, hgv⟩ := id C0
  have hown : s.vm.findClass RL = some m.cls := hown
  have hA : ∀ q : Nat, s.heap.size ≤ q → (fun q : Nat => s.heap.size ≤ q) q := fun _ h => h
  have hbA : ¬ (fun q : Nat => s.heap.size ≤ q) b := Nat.not_le.mpr hbl
  refine lv_aload_n hx hb dL_law_494 rfl (lv_at hl 2 rfl) ?_
  refine lv_aload_n hx hb dL_law_495 rfl (lv_at hl 3 rfl) ?_
  refine lv_iload_n hx hb dL_law_496 rfl (lv_at hl 0 rfl) ?_
  refine lv_iconst (v := 1) hx hb dL_law_497 (by decide) ?_
  refine lv_iadd hx hb dL_law_498 ?_
  refine lv_topi (fun r1 h2 => ?_)
  have f3 : r1.toInt = x3.toInt + 1 := z_iadd h2 rfl (show Int32.toInt 1 = 1 from by decide) (by omega) (by omega)
  refine va_sld hx hb hXs hbl hbA hS (z_in rfl (by omega) (by omega)) dL_law_499 ?_
  refine lv_topi (fun a4 h5 => ?_)
  refine lv_aload_n hx hb dL_law_500 rfl (lv_at hl 3 rfl) ?_
  refine lv_iload_n hx hb dL_law_501 rfl (lv_at hl 0 rfl) ?_
  refine lv_iconst (v := 2) hx hb dL_law_502 (by decide) ?_
  refine lv_iadd hx hb dL_law_503 ?_
  refine lv_topi (fun r6 h7 => ?_)
  have f8 : r6.toInt = x3.toInt + 2 := z_iadd h7 rfl (show Int32.toInt 2 = 2 from by decide) (by omega) (by omega)
  refine va_sld hx hb hXs hbl hbA hS (z_in rfl (by omega) (by omega)) dL_law_504 ?_
  refine lv_topi (fun a9 h10 => ?_)
  refine lv_aload_n hx hb dL_law_505 rfl (lv_at hl 3 rfl) ?_
  refine lv_iload_n hx hb dL_law_506 rfl (lv_at hl 0 rfl) ?_
  refine lv_iconst (v := 3) hx hb dL_law_507 (by decide) ?_
  refine lv_iadd hx hb dL_law_508 ?_
  refine lv_topi (fun r11 h12 => ?_)
  have f13 : r11.toInt = x3.toInt + 3 := z_iadd h12 rfl (show Int32.toInt 3 = 3 from by decide) (by omega) (by omega)
  refine va_sld hx hb hXs hbl hbA hS (z_in rfl (by omega) (by omega)) dL_law_509 ?_
  refine lv_topi (fun a14 h15 => ?_)
  refine lv_aload_n hx hb dL_law_510 rfl (lv_at hl 3 rfl) ?_
  refine lv_iload_n hx hb dL_law_511 rfl (lv_at hl 0 rfl) ?_
  refine lv_iconst (v := 4) hx hb dL_law_512 (by decide) ?_
  refine lv_iadd hx hb dL_law_513 ?_
  refine lv_topi (fun r16 h17 => ?_)
  have f18 : r16.toInt = x3.toInt + 4 := z_iadd h17 rfl (show Int32.toInt 4 = 4 from by decide) (by omega) (by omega)
  refine va_sld hx hb hXs hbl hbA hS (z_in rfl (by omega) (by omega)) dL_law_514 ?_
  refine lv_topi (fun a19 h20 => ?_)
  refine f_fini (va_runV (As := [.int a4, .int a9, .int a14, .int a19]) (rest := []) ⟨hx, hb, hml, hown, hts⟩ (q_X8_sheet l dC dI cB cI cJ cZ cP cQ adK adV q0 a1 H.size w1 a4 a9 a14 a19 I1) (cwV 4 hts gT_X8_sheet rfl rfl rfl (by decide +kernel) ⟨Nat.le_of_ble_eq_true rfl, Nat.le_of_ble_eq_true rfl⟩) (f_pV (ci := 8) hE hS hA hK hP hD hX rfl (IX_recv I1)) rfl rfl hl.1 rfl (lv_room (Nat.le_of_ble_eq_true rfl)) dL_law_515 ⟨by show _ + 0 ≤ 600000; omega, by show _ + 0 ≤ 7302250; omega⟩) hP hD hS hA (fun r21 w1 H locs hp hP hD hS => ?_)
  obtain ⟨I1, h22⟩ := hp
  refine lv_pop hx hb dL_law_518 rfl ?_
  refine lv_aload_n hx hb dL_law_519 rfl (lv_at hl 1 rfl) ?_
  refine lv_aload_n hx hb dL_law_520 rfl (lv_at hl 3 rfl) ?_
  refine lv_iload_n hx hb dL_law_521 rfl (lv_at hl 0 rfl) ?_
  refine lv_iconst (v := 1) hx hb dL_law_522 (by decide) ?_
  refine lv_iadd hx hb dL_law_523 ?_
  refine lv_topi (fun r23 h24 => ?_)
  have f25 : r23.toInt = x3.toInt + 1 := z_iadd h24 rfl (show Int32.toInt 1 = 1 from by decide) (by omega) (by omega)
  refine va_sld hx hb hXs hbl hbA hS (z_in rfl (by omega) (by omega)) dL_law_524 ?_
  refine lv_topi (fun a26 h27 => ?_)
  refine lv_aload_n hx hb dL_law_525 rfl (lv_at hl 3 rfl) ?_
  refine lv_iload_n hx hb dL_law_526 rfl (lv_at hl 0 rfl) ?_
  refine lv_iconst (v := 2) hx hb dL_law_527 (by decide) ?_
  refine lv_iadd hx hb dL_law_528 ?_
  refine lv_topi (fun r28 h29 => ?_)
  have f30 : r28.toInt = x3.toInt + 2 := z_iadd h29 rfl (show Int32.toInt 2 = 2 from by decide) (by omega) (by omega)
  refine va_sld hx hb hXs hbl hbA hS (z_in rfl (by omega) (by omega)) dL_law_529 ?_
  refine lv_topi (fun a31 h32 => ?_)
  refine lv_aload_n hx hb dL_law_530 rfl (lv_at hl 3 rfl) ?_
  refine lv_iload_n hx hb dL_law_531 rfl (lv_at hl 0 rfl) ?_
  refine lv_iconst (v := 3) hx hb dL_law_532 (by decide) ?_
  refine lv_iadd hx hb dL_law_533 ?_
  refine lv_topi (fun r33 h34 => ?_)
  have f35 : r33.toInt = x3.toInt + 3 := z_iadd h34 rfl (show Int32.toInt 3 = 3 from by decide) (by omega) (by omega)
  refine va_sld hx hb hXs hbl hbA hS (z_in rfl (by omega) (by omega)) dL_law_534 ?_
  refine lv_topi (fun a36 h37 => ?_)
  refine lv_aload_n hx hb dL_law_535 rfl (lv_at hl 3 rfl) ?_
  refine lv_iload_n hx hb dL_law_536 rfl (lv_at hl 0 rfl) ?_
  refine lv_iconst (v := 4) hx hb dL_law_537 (by decide) ?_
  refine lv_iadd hx hb dL_law_538 ?_
  refine lv_topi (fun r38 h39 => ?_)
  have f40 : r38.toInt = x3.toInt + 4 := z_iadd h39 rfl (show Int32.toInt 4 = 4 from by decide) (by omega) (by omega)
  refine va_sld hx hb hXs hbl hbA hS (z_in rfl (by omega) (by omega)) dL_law_539 ?_
  refine lv_topi (fun a41 h42 => ?_)
  have hP : va_P (dC, dI) vwCl (w2 ++ w1) H := f_Pm List.perm_append_comm hP
  have hD : va_D (fun q : Nat => s.heap.size ≤ q) (w2 ++ w1) := f_Dm List.perm_append_comm hD
  refine f_fini (va_runV (As := [.int a26, .int a31, .int a36, .int a41]) (rest := []) ⟨hx, hb, hml, hown, hts⟩ (q_X9_sheet l dC dI cB cI cJ cZ cP cQ adK adV q0 a2 H.size w2 a26 a31 a36 a41 I2) (cwV 4 hts gT_X9_sheet rfl rfl rfl (by decide +kernel) ⟨Nat.le_of_ble_eq_true rfl, Nat.le_of_ble_eq_true rfl⟩) (f_pV (ci := 9) hE hS hA hK hP hD hX rfl (IM_recv I2)) rfl rfl hl.1 rfl (lv_room (Nat.le_of_ble_eq_true rfl)) dL_law_540 ⟨by show _ + 0 ≤ 600000; omega, by show _ + 0 ≤ 7302250; omega⟩) hP hD hS hA (fun r43 w2 H locs hp hP hD hS => ?_)
  obtain ⟨I2, h44⟩ := hp
  have hP : va_P (dC, dI) vwCl (w1 ++ w2) H := f_Pm List.perm_append_comm hP
  have hD : va_D (fun q : Nat => s.heap.size ≤ q) (w1 ++ w2) := f_Dm List.perm_append_comm hD
  refine lv_pop hx hb dL_law_543 rfl ?_
  refine lv_goto (tgt := 1615) hx hb dL_law_544 (by decide) ?_
  refine W.widen (k := cells + 18) (n := slots + 1522) (by omega) (by omega) ?_
  exact kk w1 w2 H locs ls I1 I2 hP hD hS (lv_sub hl [0, 1, 2, 3] rfl)
set_option maxHeartbeats 8000000 in
set_option maxRecDepth 100000 in
theorem law_case9 {p : Program} {e : Env} {s : State} {m : MethodId} {below : List Frame} {meth : Method} {c : Code} {b L : Nat} {xs : Nat → Int32} (l : Launch) (dC : Nat → ClassId) (dI : Nat → Nat → Nat) (cB cI cJ cZ cP cQ : ClassId) (adK adV : Nat → Nat) (q0 : Option Nat) (a1 a2 : Nat) (x3 : Int32) (C0 : lw_At p s m meth c b L xs) (hL : L ≤ 3072) (hK : va_K (dC, dI) vwCl (zT cB cI cJ cZ cP cQ) s) (hX : zX zNW zAO s) (hE : zE adK adV q0 (fun q : Nat => s.heap.size ≤ q) s s.heap) (i cells slots : Nat) (hi : x3.toInt = i) (hiL : i + 6 ≤ L) (hc : cells + 18 ≤ 600000) (hs : slots + 1522 ≤ 7302250) (w1 w2 : va_W) (I1 : IX cB cI cJ cZ cP cQ a1 w1) (I2 : IM cB cI cJ cZ cP cQ a2 w2) (H : Heap) (locs : List Loc) (hP : va_P (dC, dI) vwCl (w1 ++ w2) H) (hD : va_D (fun q : Nat => s.heap.size ≤ q) (w1 ++ w2)) (hS : va_S (fun q : Nat => s.heap.size ≤ q) s.heap H locs) (ls : Array Slot) (hl : lv_has ls 4 [(3, .int x3), (2, .ref a2), (1, .ref a1), (0, .ref b)]) (kk : ∀ (w1 w2 : va_W) (H : Heap) (locs : List Loc) (ls : Array Slot), IX cB cI cJ cZ cP cQ a1 w1 → IM cB cI cJ cZ cP cQ a2 w2 → va_P (dC, dI) vwCl (w1 ++ w2) H → va_D (fun q : Nat => s.heap.size ≤ q) (w1 ++ w2) → va_S (fun q : Nat => s.heap.size ≤ q) s.heap H locs → lv_has ls 4 [(3, .int x3), (2, .ref a2), (1, .ref a1), (0, .ref b)] → W p l e room_1 s m #[Value.ref b] below meth c H locs (cells + 18) (slots + 1522) (lw_Z below #[Value.ref b] s) (F0 m 1615 ls [])) : W p l e room_1 s m #[Value.ref b] below meth c H locs cells slots (lw_Z below #[Value.ref b] s) (F0 m 547 ls []) := by
  obtain ⟨hx, hb, hr, hml, hown, hts, hXs, hbl, hlocks, hgv⟩ := id C0
  have hown : s.vm.findClass RL = some m.cls := hown
  have hA : ∀ q : Nat, s.heap.size ≤ q → (fun q : Nat => s.heap.size ≤ q) q := fun _ h => h
  have hbA : ¬ (fun q : Nat => s.heap.size ≤ q) b := Nat.not_le.mpr hbl
  refine lv_aload_n hx hb dL_law_547 rfl (lv_at hl 2 rfl) ?_
  refine lv_aload_n hx hb dL_law_548 rfl (lv_at hl 3 rfl) ?_
  refine lv_iload_n hx hb dL_law_549 rfl (lv_at hl 0 rfl) ?_
  refine lv_iconst (v := 1) hx hb dL_law_550 (by decide) ?_
  refine lv_iadd hx hb dL_law_551 ?_
  refine lv_topi (fun r1 h2 => ?_)
  have f3 : r1.toInt = x3.toInt + 1 := z_iadd h2 rfl (show Int32.toInt 1 = 1 from by decide) (by omega) (by omega)
  refine va_sld hx hb hXs hbl hbA hS (z_in rfl (by omega) (by omega)) dL_law_552 ?_
  refine lv_topi (fun a4 h5 => ?_)
  refine lv_aload_n hx hb dL_law_553 rfl (lv_at hl 3 rfl) ?_
  refine lv_iload_n hx hb dL_law_554 rfl (lv_at hl 0 rfl) ?_
  refine lv_iconst (v := 2) hx hb dL_law_555 (by decide) ?_
  refine lv_iadd hx hb dL_law_556 ?_
  refine lv_topi (fun r6 h7 => ?_)
  have f8 : r6.toInt = x3.toInt + 2 := z_iadd h7 rfl (show Int32.toInt 2 = 2 from by decide) (by omega) (by omega)
  refine va_sld hx hb hXs hbl hbA hS (z_in rfl (by omega) (by omega)) dL_law_557 ?_
  refine lv_topi (fun a9 h10 => ?_)
  refine f_fini (va_runV (As := [.int a4, .int a9]) (rest := []) ⟨hx, hb, hml, hown, hts⟩ (q_X8_told l dC dI cB cI cJ cZ cP cQ adK adV q0 a1 H.size w1 a4 a9 I1) (cwV 2 hts gT_X8_told rfl rfl rfl (by decide +kernel) ⟨Nat.le_of_ble_eq_true rfl, Nat.le_of_ble_eq_true rfl⟩) (f_pV (ci := 8) hE hS hA hK hP hD hX rfl (IX_recv I1)) rfl rfl hl.1 rfl (lv_room (Nat.le_of_ble_eq_true rfl)) dL_law_558 ⟨by show _ + 0 ≤ 600000; omega, by show _ + 0 ≤ 7302250; omega⟩) hP hD hS hA (fun r11 w1 H locs hp hP hD hS => ?_)
  obtain ⟨I1, h12⟩ := hp
  refine lv_pop hx hb dL_law_561 rfl ?_
  refine lv_aload_n hx hb dL_law_562 rfl (lv_at hl 1 rfl) ?_
  refine lv_aload_n hx hb dL_law_563 rfl (lv_at hl 3 rfl) ?_
  refine lv_iload_n hx hb dL_law_564 rfl (lv_at hl 0 rfl) ?_
  refine lv_iconst (v := 1) hx hb dL_law_565 (by decide) ?_
  refine lv_iadd hx hb dL_law_566 ?_
  refine lv_topi (fun r13 h14 => ?_)
  have f15 : r13.toInt = x3.toInt + 1 := z_iadd h14 rfl (show Int32.toInt 1 = 1 from by decide) (by omega) (by omega)
  refine va_sld hx hb hXs hbl hbA hS (z_in rfl (by omega) (by omega)) dL_law_567 ?_
  refine lv_topi (fun a16 h17 => ?_)
  refine lv_aload_n hx hb dL_law_568 rfl (lv_at hl 3 rfl) ?_
  refine lv_iload_n hx hb dL_law_569 rfl (lv_at hl 0 rfl) ?_
  refine lv_iconst (v := 2) hx hb dL_law_570 (by decide) ?_
  refine lv_iadd hx hb dL_law_571 ?_
  refine lv_topi (fun r18 h19 => ?_)
  have f20 : r18.toInt = x3.toInt + 2 := z_iadd h19 rfl (show Int32.toInt 2 = 2 from by decide) (by omega) (by omega)
  refine va_sld hx hb hXs hbl hbA hS (z_in rfl (by omega) (by omega)) dL_law_572 ?_
  refine lv_topi (fun a21 h22 => ?_)
  have hP : va_P (dC, dI) vwCl (w2 ++ w1) H := f_Pm List.perm_append_comm hP
  have hD : va_D (fun q : Nat => s.heap.size ≤ q) (w2 ++ w1) := f_Dm List.perm_append_comm hD
  refine f_fini (va_runV (As := [.int a16, .int a21]) (rest := []) ⟨hx, hb, hml, hown, hts⟩ (q_X9_told l dC dI cB cI cJ cZ cP cQ adK adV q0 a2 H.size w2 a16 a21 I2) (cwV 2 hts gT_X9_told rfl rfl rfl (by decide +kernel) ⟨Nat.le_of_ble_eq_true rfl, Nat.le_of_ble_eq_true rfl⟩) (f_pV (ci := 9) hE hS hA hK hP hD hX rfl (IM_recv I2)) rfl rfl hl.1 rfl (lv_room (Nat.le_of_ble_eq_true rfl)) dL_law_573 ⟨by show _ + 0 ≤ 600000; omega, by show _ + 0 ≤ 7302250; omega⟩) hP hD hS hA (fun r23 w2 H locs hp hP hD hS => ?_)
  obtain ⟨I2, h24⟩ := hp
  have hP : va_P (dC, dI) vwCl (w1 ++ w2) H := f_Pm List.perm_append_comm hP
  have hD : va_D (fun q : Nat => s.heap.size ≤ q) (w1 ++ w2) := f_Dm List.perm_append_comm hD
  refine lv_pop hx hb dL_law_576 rfl ?_
  refine lv_goto (tgt := 1615) hx hb dL_law_577 (by decide) ?_
  refine W.widen (k := cells + 18) (n := slots + 1522) (by omega) (by omega) ?_
  exact kk w1 w2 H locs ls I1 I2 hP hD hS (lv_sub hl [0, 1, 2, 3] rfl)
set_option maxHeartbeats 8000000 in
set_option maxRecDepth 100000 in
theorem law_case10 {p : Program} {e : Env} {s : State} {m : MethodId} {below : List Frame} {meth : Method} {c : Code} {b L : Nat} {xs : Nat → Int32} (l : Launch) (dC : Nat → ClassId) (dI : Nat → Nat → Nat) (cB cI cJ cZ cP cQ : ClassId) (adK adV : Nat → Nat) (q0 : Option Nat) (a1 a2 : Nat) (x3 : Int32) (C0 : lw_At p s m meth c b L xs) (hL : L ≤ 3072) (hK : va_K (dC, dI) vwCl (zT cB cI cJ cZ cP cQ) s) (hX : zX zNW zAO s) (hE : zE adK adV q0 (fun q : Nat => s.heap.size ≤ q) s s.heap) (i cells slots : Nat) (hi : x3.toInt = i) (hiL : i + 6 ≤ L) (hc : cells + 18 ≤ 600000) (hs : slots + 1522 ≤ 7302250) (w1 w2 : va_W) (I1 : IX cB cI cJ cZ cP cQ a1 w1) (I2 : IM cB cI cJ cZ cP cQ a2 w2) (H : Heap) (locs : List Loc) (hP : va_P (dC, dI) vwCl (w1 ++ w2) H) (hD : va_D (fun q : Nat => s.heap.size ≤ q) (w1 ++ w2)) (hS : va_S (fun q : Nat => s.heap.size ≤ q) s.heap H locs) (ls : Array Slot) (hl : lv_has ls 4 [(3, .int x3), (2, .ref a2), (1, .ref a1), (0, .ref b)]) (kk : ∀ (w1 w2 : va_W) (H : Heap) (locs : List Loc) (ls : Array Slot), IX cB cI cJ cZ cP cQ a1 w1 → IM cB cI cJ cZ cP cQ a2 w2 → va_P (dC, dI) vwCl (w1 ++ w2) H → va_D (fun q : Nat => s.heap.size ≤ q) (w1 ++ w2) → va_S (fun q : Nat => s.heap.size ≤ q) s.heap H locs → lv_has ls 4 [(3, .int x3), (2, .ref a2), (1, .ref a1), (0, .ref b)] → W p l e room_1 s m #[Value.ref b] below meth c H locs (cells + 18) (slots + 1522) (lw_Z below #[Value.ref b] s) (F0 m 1615 ls [])) : W p l e room_1 s m #[Value.ref b] below meth c H locs cells slots (lw_Z below #[Value.ref b] s) (F0 m 580 ls []) := by
  obtain ⟨hx, hb, hr, hml, hown, hts, hXs, hbl, hlocks, hgv⟩ := id C0
  have hown : s.vm.findClass RL = some m.cls := hown
  have hA : ∀ q : Nat, s.heap.size ≤ q → (fun q : Nat => s.heap.size ≤ q) q := fun _ h => h
  have hbA : ¬ (fun q : Nat => s.heap.size ≤ q) b := Nat.not_le.mpr hbl
  refine lv_aload_n hx hb dL_law_580 rfl (lv_at hl 2 rfl) ?_
  refine lv_aload_n hx hb dL_law_581 rfl (lv_at hl 3 rfl) ?_
  refine lv_iload_n hx hb dL_law_582 rfl (lv_at hl 0 rfl) ?_
  refine lv_iconst (v := 1) hx hb dL_law_583 (by decide) ?_
  refine lv_iadd hx hb dL_law_584 ?_
  refine lv_topi (fun r1 h2 => ?_)
  have f3 : r1.toInt = x3.toInt + 1 := z_iadd h2 rfl (show Int32.toInt 1 = 1 from by decide) (by omega) (by omega)
  refine va_sld hx hb hXs hbl hbA hS (z_in rfl (by omega) (by omega)) dL_law_585 ?_
  refine lv_topi (fun a4 h5 => ?_)
  refine lv_aload_n hx hb dL_law_586 rfl (lv_at hl 3 rfl) ?_
  refine lv_iload_n hx hb dL_law_587 rfl (lv_at hl 0 rfl) ?_
  refine lv_iconst (v := 2) hx hb dL_law_588 (by decide) ?_
  refine lv_iadd hx hb dL_law_589 ?_
  refine lv_topi (fun r6 h7 => ?_)
  have f8 : r6.toInt = x3.toInt + 2 := z_iadd h7 rfl (show Int32.toInt 2 = 2 from by decide) (by omega) (by omega)
  refine va_sld hx hb hXs hbl hbA hS (z_in rfl (by omega) (by omega)) dL_law_590 ?_
  refine lv_topi (fun a9 h10 => ?_)
  refine f_fini (va_runV (As := [.int a4, .int a9]) (rest := []) ⟨hx, hb, hml, hown, hts⟩ (q_X8_would l dC dI cB cI cJ cZ cP cQ adK adV q0 a1 H.size w1 a4 a9 I1) (cwV 2 hts gT_X8_would rfl rfl rfl (by decide +kernel) ⟨Nat.le_of_ble_eq_true rfl, Nat.le_of_ble_eq_true rfl⟩) (f_pV (ci := 8) hE hS hA hK hP hD hX rfl (IX_recv I1)) rfl rfl hl.1 rfl (lv_room (Nat.le_of_ble_eq_true rfl)) dL_law_591 ⟨by show _ + 0 ≤ 600000; omega, by show _ + 0 ≤ 7302250; omega⟩) hP hD hS hA (fun r11 w1 H locs hp hP hD hS => ?_)
  obtain ⟨I1, h12⟩ := hp
  refine lv_pop hx hb dL_law_594 rfl ?_
  refine lv_aload_n hx hb dL_law_595 rfl (lv_at hl 1 rfl) ?_
  refine lv_aload_n hx hb dL_law_596 rfl (lv_at hl 3 rfl) ?_
  refine lv_iload_n hx hb dL_law_597 rfl (lv_at hl 0 rfl) ?_
  refine lv_iconst (v := 1) hx hb dL_law_598 (by decide) ?_
  refine lv_iadd hx hb dL_law_599 ?_
  refine lv_topi (fun r13 h14 => ?_)
  have f15 : r13.toInt = x3.toInt + 1 := z_iadd h14 rfl (show Int32.toInt 1 = 1 from by decide) (by omega) (by omega)
  refine va_sld hx hb hXs hbl hbA hS (z_in rfl (by omega) (by omega)) dL_law_600 ?_
  refine lv_topi (fun a16 h17 => ?_)
  refine lv_aload_n hx hb dL_law_601 rfl (lv_at hl 3 rfl) ?_
  refine lv_iload_n hx hb dL_law_602 rfl (lv_at hl 0 rfl) ?_
  refine lv_iconst (v := 2) hx hb dL_law_603 (by decide) ?_
  refine lv_iadd hx hb dL_law_604 ?_
  refine lv_topi (fun r18 h19 => ?_)
  have f20 : r18.toInt = x3.toInt + 2 := z_iadd h19 rfl (show Int32.toInt 2 = 2 from by decide) (by omega) (by omega)
  refine va_sld hx hb hXs hbl hbA hS (z_in rfl (by omega) (by omega)) dL_law_605 ?_
  refine lv_topi (fun a21 h22 => ?_)
  have hP : va_P (dC, dI) vwCl (w2 ++ w1) H := f_Pm List.perm_append_comm hP
  have hD : va_D (fun q : Nat => s.heap.size ≤ q) (w2 ++ w1) := f_Dm List.perm_append_comm hD
  refine f_fini (va_runV (As := [.int a16, .int a21]) (rest := []) ⟨hx, hb, hml, hown, hts⟩ (q_X9_would l dC dI cB cI cJ cZ cP cQ adK adV q0 a2 H.size w2 a16 a21 I2) (cwV 2 hts gT_X9_would rfl rfl rfl (by decide +kernel) ⟨Nat.le_of_ble_eq_true rfl, Nat.le_of_ble_eq_true rfl⟩) (f_pV (ci := 9) hE hS hA hK hP hD hX rfl (IM_recv I2)) rfl rfl hl.1 rfl (lv_room (Nat.le_of_ble_eq_true rfl)) dL_law_606 ⟨by show _ + 0 ≤ 600000; omega, by show _ + 0 ≤ 7302250; omega⟩) hP hD hS hA (fun r23 w2 H locs hp hP hD hS => ?_)
  obtain ⟨I2, h24⟩ := hp
  have hP : va_P (dC, dI) vwCl (w1 ++ w2) H := f_Pm List.perm_append_comm hP
  have hD : va_D (fun q : Nat => s.heap.size ≤ q) (w1 ++ w2) := f_Dm List.perm_append_comm hD
  refine lv_pop hx hb dL_law_609 rfl ?_
  refine lv_goto (tgt := 1615) hx hb dL_law_610 (by decide) ?_
  refine W.widen (k := cells + 18) (n := slots + 1522) (by omega) (by omega) ?_
  exact kk w1 w2 H locs ls I1 I2 hP hD hS (lv_sub hl [0, 1, 2, 3] rfl)
set_option maxHeartbeats 8000000 in
set_option maxRecDepth 100000 in
theorem law_case11 {p : Program} {e : Env} {s : State} {m : MethodId} {below : List Frame} {meth : Method} {c : Code} {b L : Nat} {xs : Nat → Int32} (l : Launch) (dC : Nat → ClassId) (dI : Nat → Nat → Nat) (cB cI cJ cZ cP cQ : ClassId) (adK adV : Nat → Nat) (q0 : Option Nat) (a1 a2 : Nat) (x3 : Int32) (C0 : lw_At p s m meth c b L xs) (hL : L ≤ 3072) (hK : va_K (dC, dI) vwCl (zT cB cI cJ cZ cP cQ) s) (hX : zX zNW zAO s) (hE : zE adK adV q0 (fun q : Nat => s.heap.size ≤ q) s s.heap) (i cells slots : Nat) (hi : x3.toInt = i) (hiL : i + 6 ≤ L) (hc : cells + 18 ≤ 600000) (hs : slots + 1522 ≤ 7302250) (w1 w2 : va_W) (I1 : IX cB cI cJ cZ cP cQ a1 w1) (I2 : IM cB cI cJ cZ cP cQ a2 w2) (H : Heap) (locs : List Loc) (hP : va_P (dC, dI) vwCl (w1 ++ w2) H) (hD : va_D (fun q : Nat => s.heap.size ≤ q) (w1 ++ w2)) (hS : va_S (fun q : Nat => s.heap.size ≤ q) s.heap H locs) (ls : Array Slot) (hl : lv_has ls 4 [(3, .int x3), (2, .ref a2), (1, .ref a1), (0, .ref b)]) (kk : ∀ (w1 w2 : va_W) (H : Heap) (locs : List Loc) (ls : Array Slot), IX cB cI cJ cZ cP cQ a1 w1 → IM cB cI cJ cZ cP cQ a2 w2 → va_P (dC, dI) vwCl (w1 ++ w2) H → va_D (fun q : Nat => s.heap.size ≤ q) (w1 ++ w2) → va_S (fun q : Nat => s.heap.size ≤ q) s.heap H locs → lv_has ls 4 [(3, .int x3), (2, .ref a2), (1, .ref a1), (0, .ref b)] → W p l e room_1 s m #[Value.ref b] below meth c H locs (cells + 18) (slots + 1522) (lw_Z below #[Value.ref b] s) (F0 m 1615 ls [])) : W p l e room_1 s m #[Value.ref b] below meth c H locs cells slots (lw_Z below #[Value.ref b] s) (F0 m 613 ls []) := by
  obtain ⟨hx, hb, hr, hml, hown, hts, hXs, hbl, hlocks, hgv⟩ := id C0
  have hown : s.vm.findClass RL = some m.cls := hown
  have hA : ∀ q : Nat, s.heap.size ≤ q → (fun q : Nat => s.heap.size ≤ q) q := fun _ h => h
  have hbA : ¬ (fun q : Nat => s.heap.size ≤ q) b := Nat.not_le.mpr hbl
  refine lv_aload_n hx hb dL_law_613 rfl (lv_at hl 2 rfl) ?_
  refine lv_aload_n hx hb dL_law_614 rfl (lv_at hl 3 rfl) ?_
  refine lv_iload_n hx hb dL_law_615 rfl (lv_at hl 0 rfl) ?_
  refine lv_iconst (v := 1) hx hb dL_law_616 (by decide) ?_
  refine lv_iadd hx hb dL_law_617 ?_
  refine lv_topi (fun r1 h2 => ?_)
  have f3 : r1.toInt = x3.toInt + 1 := z_iadd h2 rfl (show Int32.toInt 1 = 1 from by decide) (by omega) (by omega)
  refine va_sld hx hb hXs hbl hbA hS (z_in rfl (by omega) (by omega)) dL_law_618 ?_
  refine lv_topi (fun a4 h5 => ?_)
  refine f_fini (va_runV (As := [.int a4]) (rest := []) ⟨hx, hb, hml, hown, hts⟩ (q_X8_worth l dC dI cB cI cJ cZ cP cQ adK adV q0 a1 H.size w1 a4 I1) (cwV 1 hts gT_X8_worth rfl rfl rfl (by decide +kernel) ⟨Nat.le_of_ble_eq_true rfl, Nat.le_of_ble_eq_true rfl⟩) (f_pV (ci := 8) hE hS hA hK hP hD hX rfl (IX_recv I1)) rfl rfl hl.1 rfl (lv_room (Nat.le_of_ble_eq_true rfl)) dL_law_619 ⟨by show _ + 0 ≤ 600000; omega, by show _ + 0 ≤ 7302250; omega⟩) hP hD hS hA (fun r6 w1 H locs hp hP hD hS => ?_)
  obtain ⟨I1, h7⟩ := hp
  refine lv_pop hx hb dL_law_622 rfl ?_
  refine lv_aload_n hx hb dL_law_623 rfl (lv_at hl 1 rfl) ?_
  refine lv_aload_n hx hb dL_law_624 rfl (lv_at hl 3 rfl) ?_
  refine lv_iload_n hx hb dL_law_625 rfl (lv_at hl 0 rfl) ?_
  refine lv_iconst (v := 1) hx hb dL_law_626 (by decide) ?_
  refine lv_iadd hx hb dL_law_627 ?_
  refine lv_topi (fun r8 h9 => ?_)
  have f10 : r8.toInt = x3.toInt + 1 := z_iadd h9 rfl (show Int32.toInt 1 = 1 from by decide) (by omega) (by omega)
  refine va_sld hx hb hXs hbl hbA hS (z_in rfl (by omega) (by omega)) dL_law_628 ?_
  refine lv_topi (fun a11 h12 => ?_)
  have hP : va_P (dC, dI) vwCl (w2 ++ w1) H := f_Pm List.perm_append_comm hP
  have hD : va_D (fun q : Nat => s.heap.size ≤ q) (w2 ++ w1) := f_Dm List.perm_append_comm hD
  refine f_fini (va_runV (As := [.int a11]) (rest := []) ⟨hx, hb, hml, hown, hts⟩ (q_X9_worth l dC dI cB cI cJ cZ cP cQ adK adV q0 a2 H.size w2 a11 I2) (cwV 1 hts gT_X9_worth rfl rfl rfl (by decide +kernel) ⟨Nat.le_of_ble_eq_true rfl, Nat.le_of_ble_eq_true rfl⟩) (f_pV (ci := 9) hE hS hA hK hP hD hX rfl (IM_recv I2)) rfl rfl hl.1 rfl (lv_room (Nat.le_of_ble_eq_true rfl)) dL_law_629 ⟨by show _ + 0 ≤ 600000; omega, by show _ + 0 ≤ 7302250; omega⟩) hP hD hS hA (fun r13 w2 H locs hp hP hD hS => ?_)
  obtain ⟨I2, h14⟩ := hp
  have hP : va_P (dC, dI) vwCl (w1 ++ w2) H := f_Pm List.perm_append_comm hP
  have hD : va_D (fun q : Nat => s.heap.size ≤ q) (w1 ++ w2) := f_Dm List.perm_append_comm hD
  refine lv_pop hx hb dL_law_632 rfl ?_
  refine lv_goto (tgt := 1615) hx hb dL_law_633 (by decide) ?_
  refine W.widen (k := cells + 18) (n := slots + 1522) (by omega) (by omega) ?_
  exact kk w1 w2 H locs ls I1 I2 hP hD hS (lv_sub hl [0, 1, 2, 3] rfl)
set_option maxHeartbeats 8000000 in
set_option maxRecDepth 100000 in
theorem law_case12 {p : Program} {e : Env} {s : State} {m : MethodId} {below : List Frame} {meth : Method} {c : Code} {b L : Nat} {xs : Nat → Int32} (l : Launch) (dC : Nat → ClassId) (dI : Nat → Nat → Nat) (cB cI cJ cZ cP cQ : ClassId) (adK adV : Nat → Nat) (q0 : Option Nat) (a1 a2 : Nat) (x3 : Int32) (C0 : lw_At p s m meth c b L xs) (hL : L ≤ 3072) (hK : va_K (dC, dI) vwCl (zT cB cI cJ cZ cP cQ) s) (hX : zX zNW zAO s) (hE : zE adK adV q0 (fun q : Nat => s.heap.size ≤ q) s s.heap) (i cells slots : Nat) (hi : x3.toInt = i) (hiL : i + 6 ≤ L) (hc : cells + 18 ≤ 600000) (hs : slots + 1522 ≤ 7302250) (w1 w2 : va_W) (I1 : IX cB cI cJ cZ cP cQ a1 w1) (I2 : IM cB cI cJ cZ cP cQ a2 w2) (H : Heap) (locs : List Loc) (hP : va_P (dC, dI) vwCl (w1 ++ w2) H) (hD : va_D (fun q : Nat => s.heap.size ≤ q) (w1 ++ w2)) (hS : va_S (fun q : Nat => s.heap.size ≤ q) s.heap H locs) (ls : Array Slot) (hl : lv_has ls 4 [(3, .int x3), (2, .ref a2), (1, .ref a1), (0, .ref b)]) (kk : ∀ (w1 w2 : va_W) (H : Heap) (locs : List Loc) (ls : Array Slot), IX cB cI cJ cZ cP cQ a1 w1 → IM cB cI cJ cZ cP cQ a2 w2 → va_P (dC, dI) vwCl (w1 ++ w2) H → va_D (fun q : Nat => s.heap.size ≤ q) (w1 ++ w2) → va_S (fun q : Nat => s.heap.size ≤ q) s.heap H locs → lv_has ls 4 [(3, .int x3), (2, .ref a2), (1, .ref a1), (0, .ref b)] → W p l e room_1 s m #[Value.ref b] below meth c H locs (cells + 18) (slots + 1522) (lw_Z below #[Value.ref b] s) (F0 m 1615 ls [])) : W p l e room_1 s m #[Value.ref b] below meth c H locs cells slots (lw_Z below #[Value.ref b] s) (F0 m 636 ls []) := by
  obtain ⟨hx, hb, hr, hml, hown, hts, hXs, hbl, hlocks, hgv⟩ := id C0
  have hown : s.vm.findClass RL = some m.cls := hown
  have hA : ∀ q : Nat, s.heap.size ≤ q → (fun q : Nat => s.heap.size ≤ q) q := fun _ h => h
  have hbA : ¬ (fun q : Nat => s.heap.size ≤ q) b := Nat.not_le.mpr hbl
  refine lv_aload_n hx hb dL_law_636 rfl (lv_at hl 2 rfl) ?_
  refine lv_aload_n hx hb dL_law_637 rfl (lv_at hl 3 rfl) ?_
  refine lv_iload_n hx hb dL_law_638 rfl (lv_at hl 0 rfl) ?_
  refine lv_iconst (v := 1) hx hb dL_law_639 (by decide) ?_
  refine lv_iadd hx hb dL_law_640 ?_
  refine lv_topi (fun r1 h2 => ?_)
  have f3 : r1.toInt = x3.toInt + 1 := z_iadd h2 rfl (show Int32.toInt 1 = 1 from by decide) (by omega) (by omega)
  refine va_sld hx hb hXs hbl hbA hS (z_in rfl (by omega) (by omega)) dL_law_641 ?_
  refine lv_topi (fun a4 h5 => ?_)
  refine lv_aload_n hx hb dL_law_642 rfl (lv_at hl 3 rfl) ?_
  refine lv_iload_n hx hb dL_law_643 rfl (lv_at hl 0 rfl) ?_
  refine lv_iconst (v := 2) hx hb dL_law_644 (by decide) ?_
  refine lv_iadd hx hb dL_law_645 ?_
  refine lv_topi (fun r6 h7 => ?_)
  have f8 : r6.toInt = x3.toInt + 2 := z_iadd h7 rfl (show Int32.toInt 2 = 2 from by decide) (by omega) (by omega)
  refine va_sld hx hb hXs hbl hbA hS (z_in rfl (by omega) (by omega)) dL_law_646 ?_
  refine lv_topi (fun a9 h10 => ?_)
  refine f_fini (va_runV (As := [.int a4, .int a9]) (rest := []) ⟨hx, hb, hml, hown, hts⟩ (q_X8_month l dC dI cB cI cJ cZ cP cQ adK adV q0 a1 H.size w1 a4 a9 I1) (cwV 2 hts gT_X8_month rfl rfl rfl (by decide +kernel) ⟨Nat.le_of_ble_eq_true rfl, Nat.le_of_ble_eq_true rfl⟩) (f_pV (ci := 8) hE hS hA hK hP hD hX rfl (IX_recv I1)) rfl rfl hl.1 rfl (lv_room (Nat.le_of_ble_eq_true rfl)) dL_law_647 ⟨by show _ + 0 ≤ 600000; omega, by show _ + 0 ≤ 7302250; omega⟩) hP hD hS hA (fun r11 w1 H locs hp hP hD hS => ?_)
  obtain ⟨I1, h12⟩ := hp
  refine lv_pop hx hb dL_law_650 rfl ?_
  refine lv_aload_n hx hb dL_law_651 rfl (lv_at hl 1 rfl) ?_
  refine lv_aload_n hx hb dL_law_652 rfl (lv_at hl 3 rfl) ?_
  refine lv_iload_n hx hb dL_law_653 rfl (lv_at hl 0 rfl) ?_
  refine lv_iconst (v := 1) hx hb dL_law_654 (by decide) ?_
  refine lv_iadd hx hb dL_law_655 ?_
  refine lv_topi (fun r13 h14 => ?_)
  have f15 : r13.toInt = x3.toInt + 1 := z_iadd h14 rfl (show Int32.toInt 1 = 1 from by decide) (by omega) (by omega)
  refine va_sld hx hb hXs hbl hbA hS (z_in rfl (by omega) (by omega)) dL_law_656 ?_
  refine lv_topi (fun a16 h17 => ?_)
  refine lv_aload_n hx hb dL_law_657 rfl (lv_at hl 3 rfl) ?_
  refine lv_iload_n hx hb dL_law_658 rfl (lv_at hl 0 rfl) ?_
  refine lv_iconst (v := 2) hx hb dL_law_659 (by decide) ?_
  refine lv_iadd hx hb dL_law_660 ?_
  refine lv_topi (fun r18 h19 => ?_)
  have f20 : r18.toInt = x3.toInt + 2 := z_iadd h19 rfl (show Int32.toInt 2 = 2 from by decide) (by omega) (by omega)
  refine va_sld hx hb hXs hbl hbA hS (z_in rfl (by omega) (by omega)) dL_law_661 ?_
  refine lv_topi (fun a21 h22 => ?_)
  have hP : va_P (dC, dI) vwCl (w2 ++ w1) H := f_Pm List.perm_append_comm hP
  have hD : va_D (fun q : Nat => s.heap.size ≤ q) (w2 ++ w1) := f_Dm List.perm_append_comm hD
  refine f_fini (va_runV (As := [.int a16, .int a21]) (rest := []) ⟨hx, hb, hml, hown, hts⟩ (q_X9_month l dC dI cB cI cJ cZ cP cQ adK adV q0 a2 H.size w2 a16 a21 I2) (cwV 2 hts gT_X9_month rfl rfl rfl (by decide +kernel) ⟨Nat.le_of_ble_eq_true rfl, Nat.le_of_ble_eq_true rfl⟩) (f_pV (ci := 9) hE hS hA hK hP hD hX rfl (IM_recv I2)) rfl rfl hl.1 rfl (lv_room (Nat.le_of_ble_eq_true rfl)) dL_law_662 ⟨by show _ + 0 ≤ 600000; omega, by show _ + 0 ≤ 7302250; omega⟩) hP hD hS hA (fun r23 w2 H locs hp hP hD hS => ?_)
  obtain ⟨I2, h24⟩ := hp
  have hP : va_P (dC, dI) vwCl (w1 ++ w2) H := f_Pm List.perm_append_comm hP
  have hD : va_D (fun q : Nat => s.heap.size ≤ q) (w1 ++ w2) := f_Dm List.perm_append_comm hD
  refine lv_pop hx hb dL_law_665 rfl ?_
  refine lv_goto (tgt := 1615) hx hb dL_law_666 (by decide) ?_
  refine W.widen (k := cells + 18) (n := slots + 1522) (by omega) (by omega) ?_
  exact kk w1 w2 H locs ls I1 I2 hP hD hS (lv_sub hl [0, 1, 2, 3] rfl)
set_option maxHeartbeats 8000000 in
set_option maxRecDepth 100000 in
theorem law_case13 {p : Program} {e : Env} {s : State} {m : MethodId} {below : List Frame} {meth : Method} {c : Code} {b L : Nat} {xs : Nat → Int32} (l : Launch) (dC : Nat → ClassId) (dI : Nat → Nat → Nat) (cB cI cJ cZ cP cQ : ClassId) (adK adV : Nat → Nat) (q0 : Option Nat) (a1 a2 : Nat) (x3 : Int32) (C0 : lw_At p s m meth c b L xs) (hL : L ≤ 3072) (hK : va_K (dC, dI) vwCl (zT cB cI cJ cZ cP cQ) s) (hX : zX zNW zAO s) (hE : zE adK adV q0 (fun q : Nat => s.heap.size ≤ q) s s.heap) (i cells slots : Nat) (hi : x3.toInt = i) (hiL : i + 6 ≤ L) (hc : cells + 18 ≤ 600000) (hs : slots + 1522 ≤ 7302250) (w1 w2 : va_W) (I1 : IX cB cI cJ cZ cP cQ a1 w1) (I2 : IM cB cI cJ cZ cP cQ a2 w2) (H : Heap) (locs : List Loc) (hP : va_P (dC, dI) vwCl (w1 ++ w2) H) (hD : va_D (fun q : Nat => s.heap.size ≤ q) (w1 ++ w2)) (hS : va_S (fun q : Nat => s.heap.size ≤ q) s.heap H locs) (ls : Array Slot) (hl : lv_has ls 4 [(3, .int x3), (2, .ref a2), (1, .ref a1), (0, .ref b)]) (kk : ∀ (w1 w2 : va_W) (H : Heap) (locs : List Loc) (ls : Array Slot), IX cB cI cJ cZ cP cQ a1 w1 → IM cB cI cJ cZ cP cQ a2 w2 → va_P (dC, dI) vwCl (w1 ++ w2) H → va_D (fun q : Nat => s.heap.size ≤ q) (w1 ++ w2) → va_S (fun q : Nat => s.heap.size ≤ q) s.heap H locs → lv_has ls 4 [(3, .int x3), (2, .ref a2), (1, .ref a1), (0, .ref b)] → W p l e room_1 s m #[Value.ref b] below meth c H locs (cells + 18) (slots + 1522) (lw_Z below #[Value.ref b] s) (F0 m 1615 ls [])) : W p l e room_1 s m #[Value.ref b] below meth c H locs cells slots (lw_Z below #[Value.ref b] s) (F0 m 669 ls []) := by
  obtain ⟨hx, hb, hr, hml, hown, hts, hXs, hbl, hlocks, hgv⟩ := id C0
  have hown : s.vm.findClass RL = some m.cls := hown
  have hA : ∀ q : Nat, s.heap.size ≤ q → (fun q : Nat => s.heap.size ≤ q) q := fun _ h => h
  have hbA : ¬ (fun q : Nat => s.heap.size ≤ q) b := Nat.not_le.mpr hbl
  refine lv_aload_n hx hb dL_law_669 rfl (lv_at hl 2 rfl) ?_
  refine f_finl (va_runV (As := []) (rest := []) ⟨hx, hb, hml, hown, hts⟩ (q_X8_plain l dC dI cB cI cJ cZ cP cQ adK adV q0 a1 H.size w1 I1) (cwV 0 hts gT_X8_plain rfl rfl rfl (by decide +kernel) ⟨Nat.le_of_ble_eq_true rfl, Nat.le_of_ble_eq_true rfl⟩) (f_pV (ci := 8) hE hS hA hK hP hD hX rfl (IX_recv I1)) rfl rfl hl.1 rfl (lv_room (Nat.le_of_ble_eq_true rfl)) dL_law_670 ⟨by show _ + 0 ≤ 600000; omega, by show _ + 0 ≤ 7302250; omega⟩) hP hD hS hA (fun r1 w1 H locs hp hP hD hS => ?_)
  obtain ⟨I1, h2⟩ := hp
  refine lv_pop2_2 hx hb dL_law_673 rfl ?_
  refine lv_aload_n hx hb dL_law_674 rfl (lv_at hl 1 rfl) ?_
  have hP : va_P (dC, dI) vwCl (w2 ++ w1) H := f_Pm List.perm_append_comm hP
  have hD : va_D (fun q : Nat => s.heap.size ≤ q) (w2 ++ w1) := f_Dm List.perm_append_comm hD
  refine f_finl (va_runV (As := []) (rest := []) ⟨hx, hb, hml, hown, hts⟩ (q_X9_plain l dC dI cB cI cJ cZ cP cQ adK adV q0 a2 H.size w2 I2) (cwV 0 hts gT_X9_plain rfl rfl rfl (by decide +kernel) ⟨Nat.le_of_ble_eq_true rfl, Nat.le_of_ble_eq_true rfl⟩) (f_pV (ci := 9) hE hS hA hK hP hD hX rfl (IM_recv I2)) rfl rfl hl.1 rfl (lv_room (Nat.le_of_ble_eq_true rfl)) dL_law_675 ⟨by show _ + 0 ≤ 600000; omega, by show _ + 0 ≤ 7302250; omega⟩) hP hD hS hA (fun r3 w2 H locs hp hP hD hS => ?_)
  obtain ⟨I2, h4⟩ := hp
  have hP : va_P (dC, dI) vwCl (w1 ++ w2) H := f_Pm List.perm_append_comm hP
  have hD : va_D (fun q : Nat => s.heap.size ≤ q) (w1 ++ w2) := f_Dm List.perm_append_comm hD
  refine lv_pop2_2 hx hb dL_law_678 rfl ?_
  refine lv_goto (tgt := 1615) hx hb dL_law_679 (by decide) ?_
  refine W.widen (k := cells + 18) (n := slots + 1522) (by omega) (by omega) ?_
  exact kk w1 w2 H locs ls I1 I2 hP hD hS (lv_sub hl [0, 1, 2, 3] rfl)
set_option maxHeartbeats 8000000 in
set_option maxRecDepth 100000 in
theorem law_case14 {p : Program} {e : Env} {s : State} {m : MethodId} {below : List Frame} {meth : Method} {c : Code} {b L : Nat} {xs : Nat → Int32} (l : Launch) (dC : Nat → ClassId) (dI : Nat → Nat → Nat) (cB cI cJ cZ cP cQ : ClassId) (adK adV : Nat → Nat) (q0 : Option Nat) (a1 a2 : Nat) (x3 : Int32) (C0 : lw_At p s m meth c b L xs) (hL : L ≤ 3072) (hK : va_K (dC, dI) vwCl (zT cB cI cJ cZ cP cQ) s) (hX : zX zNW zAO s) (hE : zE adK adV q0 (fun q : Nat => s.heap.size ≤ q) s s.heap) (i cells slots : Nat) (hi : x3.toInt = i) (hiL : i + 6 ≤ L) (hc : cells + 18 ≤ 600000) (hs : slots + 1522 ≤ 7302250) (w1 w2 : va_W) (I1 : IX cB cI cJ cZ cP cQ a1 w1) (I2 : IM cB cI cJ cZ cP cQ a2 w2) (H : Heap) (locs : List Loc) (hP : va_P (dC, dI) vwCl (w1 ++ w2) H) (hD : va_D (fun q : Nat => s.heap.size ≤ q) (w1 ++ w2)) (hS : va_S (fun q : Nat => s.heap.size ≤ q) s.heap H locs) (ls : Array Slot) (hl : lv_has ls 4 [(3, .int x3), (2, .ref a2), (1, .ref a1), (0, .ref b)]) (kk : ∀ (w1 w2 : va_W) (H : Heap) (locs : List Loc) (ls : Array Slot), IX cB cI cJ cZ cP cQ a1 w1 → IM cB cI cJ cZ cP cQ a2 w2 → va_P (dC, dI) vwCl (w1 ++ w2) H → va_D (fun q : Nat => s.heap.size ≤ q) (w1 ++ w2) → va_S (fun q : Nat => s.heap.size ≤ q) s.heap H locs → lv_has ls 4 [(3, .int x3), (2, .ref a2), (1, .ref a1), (0, .ref b)] → W p l e room_1 s m #[Value.ref b] below meth c H locs (cells + 18) (slots + 1522) (lw_Z below #[Value.ref b] s) (F0 m 1615 ls [])) : W p l e room_1 s m #[Value.ref b] below meth c H locs cells slots (lw_Z below #[Value.ref b] s) (F0 m 682 ls []) := by
  obtain ⟨hx, hb, hr, hml, hown, hts, hXs, hbl, hlocks, hgv⟩ := id C0
  have hown : s.vm.findClass RL = some m.cls := hown
  have hA : ∀ q : Nat, s.heap.size ≤ q → (fun q : Nat => s.heap.size ≤ q) q := fun _ h => h
  have hbA : ¬ (fun q : Nat => s.heap.size ≤ q) b := Nat.not_le.mpr hbl
  refine lv_aload_n hx hb dL_law_682 rfl (lv_at hl 2 rfl) ?_
  refine lv_aload_n hx hb dL_law_683 rfl (lv_at hl 3 rfl) ?_
  refine lv_iload_n hx hb dL_law_684 rfl (lv_at hl 0 rfl) ?_
  refine lv_iconst (v := 1) hx hb dL_law_685 (by decide) ?_
  refine lv_iadd hx hb dL_law_686 ?_
  refine lv_topi (fun r1 h2 => ?_)
  have f3 : r1.toInt = x3.toInt + 1 := z_iadd h2 rfl (show Int32.toInt 1 = 1 from by decide) (by omega) (by omega)
  refine va_sld hx hb hXs hbl hbA hS (z_in rfl (by omega) (by omega)) dL_law_687 ?_
  refine lv_topi (fun a4 h5 => ?_)
  refine f_finl (va_runV (As := [.int a4]) (rest := []) ⟨hx, hb, hml, hown, hts⟩ (q_X8_by l dC dI cB cI cJ cZ cP cQ adK adV q0 a1 H.size w1 a4 I1) (cwV 1 hts gT_X8_by rfl rfl rfl (by decide +kernel) ⟨Nat.le_of_ble_eq_true rfl, Nat.le_of_ble_eq_true rfl⟩) (f_pV (ci := 8) hE hS hA hK hP hD hX rfl (IX_recv I1)) rfl rfl hl.1 rfl (lv_room (Nat.le_of_ble_eq_true rfl)) dL_law_688 ⟨by show _ + 0 ≤ 600000; omega, by show _ + 0 ≤ 7302250; omega⟩) hP hD hS hA (fun r6 w1 H locs hp hP hD hS => ?_)
  obtain ⟨I1, h7⟩ := hp
  refine lv_pop2_2 hx hb dL_law_691 rfl ?_
  refine lv_aload_n hx hb dL_law_692 rfl (lv_at hl 1 rfl) ?_
  refine lv_aload_n hx hb dL_law_693 rfl (lv_at hl 3 rfl) ?_
  refine lv_iload_n hx hb dL_law_694 rfl (lv_at hl 0 rfl) ?_
  refine lv_iconst (v := 1) hx hb dL_law_695 (by decide) ?_
  refine lv_iadd hx hb dL_law_696 ?_
  refine lv_topi (fun r8 h9 => ?_)
  have f10 : r8.toInt = x3.toInt + 1 := z_iadd h9 rfl (show Int32.toInt 1 = 1 from by decide) (by omega) (by omega)
  refine va_sld hx hb hXs hbl hbA hS (z_in rfl (by omega) (by omega)) dL_law_697 ?_
  refine lv_topi (fun a11 h12 => ?_)
  have hP : va_P (dC, dI) vwCl (w2 ++ w1) H := f_Pm List.perm_append_comm hP
  have hD : va_D (fun q : Nat => s.heap.size ≤ q) (w2 ++ w1) := f_Dm List.perm_append_comm hD
  refine f_finl (va_runV (As := [.int a11]) (rest := []) ⟨hx, hb, hml, hown, hts⟩ (q_X9_by l dC dI cB cI cJ cZ cP cQ adK adV q0 a2 H.size w2 a11 I2) (cwV 1 hts gT_X9_by rfl rfl rfl (by decide +kernel) ⟨Nat.le_of_ble_eq_true rfl, Nat.le_of_ble_eq_true rfl⟩) (f_pV (ci := 9) hE hS hA hK hP hD hX rfl (IM_recv I2)) rfl rfl hl.1 rfl (lv_room (Nat.le_of_ble_eq_true rfl)) dL_law_698 ⟨by show _ + 0 ≤ 600000; omega, by show _ + 0 ≤ 7302250; omega⟩) hP hD hS hA (fun r13 w2 H locs hp hP hD hS => ?_)
  obtain ⟨I2, h14⟩ := hp
  have hP : va_P (dC, dI) vwCl (w1 ++ w2) H := f_Pm List.perm_append_comm hP
  have hD : va_D (fun q : Nat => s.heap.size ≤ q) (w1 ++ w2) := f_Dm List.perm_append_comm hD
  refine lv_pop2_2 hx hb dL_law_701 rfl ?_
  refine lv_goto (tgt := 1615) hx hb dL_law_702 (by decide) ?_
  refine W.widen (k := cells + 18) (n := slots + 1522) (by omega) (by omega) ?_
  exact kk w1 w2 H locs ls I1 I2 hP hD hS (lv_sub hl [0, 1, 2, 3] rfl)
set_option maxHeartbeats 8000000 in
set_option maxRecDepth 100000 in
theorem law_case15 {p : Program} {e : Env} {s : State} {m : MethodId} {below : List Frame} {meth : Method} {c : Code} {b L : Nat} {xs : Nat → Int32} (l : Launch) (dC : Nat → ClassId) (dI : Nat → Nat → Nat) (cB cI cJ cZ cP cQ : ClassId) (adK adV : Nat → Nat) (q0 : Option Nat) (a1 a2 : Nat) (x3 : Int32) (C0 : lw_At p s m meth c b L xs) (hL : L ≤ 3072) (hK : va_K (dC, dI) vwCl (zT cB cI cJ cZ cP cQ) s) (hX : zX zNW zAO s) (hE : zE adK adV q0 (fun q : Nat => s.heap.size ≤ q) s s.heap) (i cells slots : Nat) (hi : x3.toInt = i) (hiL : i + 6 ≤ L) (hc : cells + 18 ≤ 600000) (hs : slots + 1522 ≤ 7302250) (w1 w2 : va_W) (I1 : IX cB cI cJ cZ cP cQ a1 w1) (I2 : IM cB cI cJ cZ cP cQ a2 w2) (H : Heap) (locs : List Loc) (hP : va_P (dC, dI) vwCl (w1 ++ w2) H) (hD : va_D (fun q : Nat => s.heap.size ≤ q) (w1 ++ w2)) (hS : va_S (fun q : Nat => s.heap.size ≤ q) s.heap H locs) (ls : Array Slot) (hl : lv_has ls 4 [(3, .int x3), (2, .ref a2), (1, .ref a1), (0, .ref b)]) (kk : ∀ (w1 w2 : va_W) (H : Heap) (locs : List Loc) (ls : Array Slot), IX cB cI cJ cZ cP cQ a1 w1 → IM cB cI cJ cZ cP cQ a2 w2 → va_P (dC, dI) vwCl (w1 ++ w2) H → va_D (fun q : Nat => s.heap.size ≤ q) (w1 ++ w2) → va_S (fun q : Nat => s.heap.size ≤ q) s.heap H locs → lv_has ls 4 [(3, .int x3), (2, .ref a2), (1, .ref a1), (0, .ref b)] → W p l e room_1 s m #[Value.ref b] below meth c H locs (cells + 18) (slots + 1522) (lw_Z below #[Value.ref b] s) (F0 m 1615 ls [])) : W p l e room_1 s m #[Value.ref b] below meth c H locs cells slots (lw_Z below #[Value.ref b] s) (F0 m 705 ls []) := by
  obtain ⟨hx, hb, hr, hml, hown, hts, hXs, hbl, hlocks, hgv⟩ := id C0
  have hown : s.vm.findClass RL = some m.cls := hown
  have hA : ∀ q : Nat, s.heap.size ≤ q → (fun q : Nat => s.heap.size ≤ q) q := fun _ h => h
  have hbA : ¬ (fun q : Nat => s.heap.size ≤ q) b := Nat.not_le.mpr hbl
  refine lv_aload_n hx hb dL_law_705 rfl (lv_at hl 2 rfl) ?_
  refine f_finl (va_runV (As := []) (rest := []) ⟨hx, hb, hml, hown, hts⟩ (q_X8_many l dC dI cB cI cJ cZ cP cQ adK adV q0 a1 H.size w1 I1) (cwV 0 hts gT_X8_many rfl rfl rfl (by decide +kernel) ⟨Nat.le_of_ble_eq_true rfl, Nat.le_of_ble_eq_true rfl⟩) (f_pV (ci := 8) hE hS hA hK hP hD hX rfl (IX_recv I1)) rfl rfl hl.1 rfl (lv_room (Nat.le_of_ble_eq_true rfl)) dL_law_706 ⟨by show _ + 0 ≤ 600000; omega, by show _ + 0 ≤ 7302250; omega⟩) hP hD hS hA (fun r1 w1 H locs hp hP hD hS => ?_)
  obtain ⟨I1, h2⟩ := hp
  refine lv_pop2_2 hx hb dL_law_709 rfl ?_
  refine lv_aload_n hx hb dL_law_710 rfl (lv_at hl 1 rfl) ?_
  have hP : va_P (dC, dI) vwCl (w2 ++ w1) H := f_Pm List.perm_append_comm hP
  have hD : va_D (fun q : Nat => s.heap.size ≤ q) (w2 ++ w1) := f_Dm List.perm_append_comm hD
  refine f_finl (va_runV (As := []) (rest := []) ⟨hx, hb, hml, hown, hts⟩ (q_X9_many l dC dI cB cI cJ cZ cP cQ adK adV q0 a2 H.size w2 I2) (cwV 0 hts gT_X9_many rfl rfl rfl (by decide +kernel) ⟨Nat.le_of_ble_eq_true rfl, Nat.le_of_ble_eq_true rfl⟩) (f_pV (ci := 9) hE hS hA hK hP hD hX rfl (IM_recv I2)) rfl rfl hl.1 rfl (lv_room (Nat.le_of_ble_eq_true rfl)) dL_law_711 ⟨by show _ + 0 ≤ 600000; omega, by show _ + 0 ≤ 7302250; omega⟩) hP hD hS hA (fun r3 w2 H locs hp hP hD hS => ?_)
  obtain ⟨I2, h4⟩ := hp
  have hP : va_P (dC, dI) vwCl (w1 ++ w2) H := f_Pm List.perm_append_comm hP
  have hD : va_D (fun q : Nat => s.heap.size ≤ q) (w1 ++ w2) := f_Dm List.perm_append_comm hD
  refine lv_pop2_2 hx hb dL_law_714 rfl ?_
  refine lv_goto (tgt := 1615) hx hb dL_law_715 (by decide) ?_
  refine W.widen (k := cells + 18) (n := slots + 1522) (by omega) (by omega) ?_
  exact kk w1 w2 H locs ls I1 I2 hP hD hS (lv_sub hl [0, 1, 2, 3] rfl)
set_option maxHeartbeats 8000000 in
set_option maxRecDepth 100000 in
theorem law_case16 {p : Program} {e : Env} {s : State} {m : MethodId} {below : List Frame} {meth : Method} {c : Code} {b L : Nat} {xs : Nat → Int32} (l : Launch) (dC : Nat → ClassId) (dI : Nat → Nat → Nat) (cB cI cJ cZ cP cQ : ClassId) (adK adV : Nat → Nat) (q0 : Option Nat) (a1 a2 : Nat) (x3 : Int32) (C0 : lw_At p s m meth c b L xs) (hL : L ≤ 3072) (hK : va_K (dC, dI) vwCl (zT cB cI cJ cZ cP cQ) s) (hX : zX zNW zAO s) (hE : zE adK adV q0 (fun q : Nat => s.heap.size ≤ q) s s.heap) (i cells slots : Nat) (hi : x3.toInt = i) (hiL : i + 6 ≤ L) (hc : cells + 18 ≤ 600000) (hs : slots + 1522 ≤ 7302250) (w1 w2 : va_W) (I1 : IX cB cI cJ cZ cP cQ a1 w1) (I2 : IM cB cI cJ cZ cP cQ a2 w2) (H : Heap) (locs : List Loc) (hP : va_P (dC, dI) vwCl (w1 ++ w2) H) (hD : va_D (fun q : Nat => s.heap.size ≤ q) (w1 ++ w2)) (hS : va_S (fun q : Nat => s.heap.size ≤ q) s.heap H locs) (ls : Array Slot) (hl : lv_has ls 4 [(3, .int x3), (2, .ref a2), (1, .ref a1), (0, .ref b)]) (kk : ∀ (w1 w2 : va_W) (H : Heap) (locs : List Loc) (ls : Array Slot), IX cB cI cJ cZ cP cQ a1 w1 → IM cB cI cJ cZ cP cQ a2 w2 → va_P (dC, dI) vwCl (w1 ++ w2) H → va_D (fun q : Nat => s.heap.size ≤ q) (w1 ++ w2) → va_S (fun q : Nat => s.heap.size ≤ q) s.heap H locs → lv_has ls 4 [(3, .int x3), (2, .ref a2), (1, .ref a1), (0, .ref b)] → W p l e room_1 s m #[Value.ref b] below meth c H locs (cells + 18) (slots + 1522) (lw_Z below #[Value.ref b] s) (F0 m 1615 ls [])) : W p l e room_1 s m #[Value.ref b] below meth c H locs cells slots (lw_Z below #[Value.ref b] s) (F0 m 718 ls []) := by
  obtain ⟨hx, hb, hr, hml, hown, hts, hXs, hbl, hlocks, hgv⟩ := id C0
  have hown : s.vm.findClass RL = some m.cls := hown
  have hA : ∀ q : Nat, s.heap.size ≤ q → (fun q : Nat => s.heap.size ≤ q) q := fun _ h => h
  have hbA : ¬ (fun q : Nat => s.heap.size ≤ q) b := Nat.not_le.mpr hbl
  refine lv_aload_n hx hb dL_law_718 rfl (lv_at hl 2 rfl) ?_
  refine f_fini (va_runV (As := []) (rest := []) ⟨hx, hb, hml, hown, hts⟩ (q_X8_groups l dC dI cB cI cJ cZ cP cQ adK adV q0 a1 H.size w1 I1) (cwV 0 hts gT_X8_groups rfl rfl rfl (by decide +kernel) ⟨Nat.le_of_ble_eq_true rfl, Nat.le_of_ble_eq_true rfl⟩) (f_pV (ci := 8) hE hS hA hK hP hD hX rfl (IX_recv I1)) rfl rfl hl.1 rfl (lv_room (Nat.le_of_ble_eq_true rfl)) dL_law_719 ⟨by show _ + 0 ≤ 600000; omega, by show _ + 0 ≤ 7302250; omega⟩) hP hD hS hA (fun r1 w1 H locs hp hP hD hS => ?_)
  obtain ⟨I1, h2⟩ := hp
  refine lv_pop hx hb dL_law_722 rfl ?_
  refine lv_aload_n hx hb dL_law_723 rfl (lv_at hl 1 rfl) ?_
  have hP : va_P (dC, dI) vwCl (w2 ++ w1) H := f_Pm List.perm_append_comm hP
  have hD : va_D (fun q : Nat => s.heap.size ≤ q) (w2 ++ w1) := f_Dm List.perm_append_comm hD
  refine f_fini (va_runV (As := []) (rest := []) ⟨hx, hb, hml, hown, hts⟩ (q_X9_groups l dC dI cB cI cJ cZ cP cQ adK adV q0 a2 H.size w2 I2) (cwV 0 hts gT_X9_groups rfl rfl rfl (by decide +kernel) ⟨Nat.le_of_ble_eq_true rfl, Nat.le_of_ble_eq_true rfl⟩) (f_pV (ci := 9) hE hS hA hK hP hD hX rfl (IM_recv I2)) rfl rfl hl.1 rfl (lv_room (Nat.le_of_ble_eq_true rfl)) dL_law_724 ⟨by show _ + 0 ≤ 600000; omega, by show _ + 0 ≤ 7302250; omega⟩) hP hD hS hA (fun r3 w2 H locs hp hP hD hS => ?_)
  obtain ⟨I2, h4⟩ := hp
  have hP : va_P (dC, dI) vwCl (w1 ++ w2) H := f_Pm List.perm_append_comm hP
  have hD : va_D (fun q : Nat => s.heap.size ≤ q) (w1 ++ w2) := f_Dm List.perm_append_comm hD
  refine lv_pop hx hb dL_law_727 rfl ?_
  refine lv_goto (tgt := 1615) hx hb dL_law_728 (by decide) ?_
  refine W.widen (k := cells + 18) (n := slots + 1522) (by omega) (by omega) ?_
  exact kk w1 w2 H locs ls I1 I2 hP hD hS (lv_sub hl [0, 1, 2, 3] rfl)
set_option maxHeartbeats 8000000 in
set_option maxRecDepth 100000 in
theorem law_case17 {p : Program} {e : Env} {s : State} {m : MethodId} {below : List Frame} {meth : Method} {c : Code} {b L : Nat} {xs : Nat → Int32} (l : Launch) (dC : Nat → ClassId) (dI : Nat → Nat → Nat) (cB cI cJ cZ cP cQ : ClassId) (adK adV : Nat → Nat) (q0 : Option Nat) (a1 a2 : Nat) (x3 : Int32) (C0 : lw_At p s m meth c b L xs) (hL : L ≤ 3072) (hK : va_K (dC, dI) vwCl (zT cB cI cJ cZ cP cQ) s) (hX : zX zNW zAO s) (hE : zE adK adV q0 (fun q : Nat => s.heap.size ≤ q) s s.heap) (i cells slots : Nat) (hi : x3.toInt = i) (hiL : i + 6 ≤ L) (hc : cells + 18 ≤ 600000) (hs : slots + 1522 ≤ 7302250) (w1 w2 : va_W) (I1 : IX cB cI cJ cZ cP cQ a1 w1) (I2 : IM cB cI cJ cZ cP cQ a2 w2) (H : Heap) (locs : List Loc) (hP : va_P (dC, dI) vwCl (w1 ++ w2) H) (hD : va_D (fun q : Nat => s.heap.size ≤ q) (w1 ++ w2)) (hS : va_S (fun q : Nat => s.heap.size ≤ q) s.heap H locs) (ls : Array Slot) (hl : lv_has ls 4 [(3, .int x3), (2, .ref a2), (1, .ref a1), (0, .ref b)]) (kk : ∀ (w1 w2 : va_W) (H : Heap) (locs : List Loc) (ls : Array Slot), IX cB cI cJ cZ cP cQ a1 w1 → IM cB cI cJ cZ cP cQ a2 w2 → va_P (dC, dI) vwCl (w1 ++ w2) H → va_D (fun q : Nat => s.heap.size ≤ q) (w1 ++ w2) → va_S (fun q : Nat => s.heap.size ≤ q) s.heap H locs → lv_has ls 4 [(3, .int x3), (2, .ref a2), (1, .ref a1), (0, .ref b)] → W p l e room_1 s m #[Value.ref b] below meth c H locs (cells + 18) (slots + 1522) (lw_Z below #[Value.ref b] s) (F0 m 1615 ls [])) : W p l e room_1 s m #[Value.ref b] below meth c H locs cells slots (lw_Z below #[Value.ref b] s) (F0 m 731 ls []) := by
  obtain ⟨hx, hb, hr, hml, hown, hts, hXs, hbl, hlocks, hgv⟩ := id C0
  have hown : s.vm.findClass RL = some m.cls := hown
  have hA : ∀ q : Nat, s.heap.size ≤ q → (fun q : Nat => s.heap.size ≤ q) q := fun _ h => h
  have hbA : ¬ (fun q : Nat => s.heap.size ≤ q) b := Nat.not_le.mpr hbl
  refine lv_aload_n hx hb dL_law_731 rfl (lv_at hl 2 rfl) ?_
  refine lv_aload_n hx hb dL_law_732 rfl (lv_at hl 3 rfl) ?_
  refine lv_iload_n hx hb dL_law_733 rfl (lv_at hl 0 rfl) ?_
  refine lv_iconst (v := 1) hx hb dL_law_734 (by decide) ?_
  refine lv_iadd hx hb dL_law_735 ?_
  refine lv_topi (fun r1 h2 => ?_)
  have f3 : r1.toInt = x3.toInt + 1 := z_iadd h2 rfl (show Int32.toInt 1 = 1 from by decide) (by omega) (by omega)
  refine va_sld hx hb hXs hbl hbA hS (z_in rfl (by omega) (by omega)) dL_law_736 ?_
  refine lv_topi (fun a4 h5 => ?_)
  refine f_finl (va_runV (As := [.int a4]) (rest := []) ⟨hx, hb, hml, hown, hts⟩ (q_X8_moves l dC dI cB cI cJ cZ cP cQ adK adV q0 a1 H.size w1 a4 I1) (cwV 1 hts gT_X8_moves rfl rfl rfl (by decide +kernel) ⟨Nat.le_of_ble_eq_true rfl, Nat.le_of_ble_eq_true rfl⟩) (f_pV (ci := 8) hE hS hA hK hP hD hX rfl (IX_recv I1)) rfl rfl hl.1 rfl (lv_room (Nat.le_of_ble_eq_true rfl)) dL_law_737 ⟨by show _ + 0 ≤ 600000; omega, by show _ + 0 ≤ 7302250; omega⟩) hP hD hS hA (fun r6 w1 H locs hp hP hD hS => ?_)
  obtain ⟨I1, h7⟩ := hp
  refine lv_pop2_2 hx hb dL_law_740 rfl ?_
  refine lv_aload_n hx hb dL_law_741 rfl (lv_at hl 1 rfl) ?_
  refine lv_aload_n hx hb dL_law_742 rfl (lv_at hl 3 rfl) ?_
  refine lv_iload_n hx hb dL_law_743 rfl (lv_at hl 0 rfl) ?_
  refine lv_iconst (v := 1) hx hb dL_law_744 (by decide) ?_
  refine lv_iadd hx hb dL_law_745 ?_
  refine lv_topi (fun r8 h9 => ?_)
  have f10 : r8.toInt = x3.toInt + 1 := z_iadd h9 rfl (show Int32.toInt 1 = 1 from by decide) (by omega) (by omega)
  refine va_sld hx hb hXs hbl hbA hS (z_in rfl (by omega) (by omega)) dL_law_746 ?_
  refine lv_topi (fun a11 h12 => ?_)
  have hP : va_P (dC, dI) vwCl (w2 ++ w1) H := f_Pm List.perm_append_comm hP
  have hD : va_D (fun q : Nat => s.heap.size ≤ q) (w2 ++ w1) := f_Dm List.perm_append_comm hD
  refine f_finl (va_runV (As := [.int a11]) (rest := []) ⟨hx, hb, hml, hown, hts⟩ (q_X9_moves l dC dI cB cI cJ cZ cP cQ adK adV q0 a2 H.size w2 a11 I2) (cwV 1 hts gT_X9_moves rfl rfl rfl (by decide +kernel) ⟨Nat.le_of_ble_eq_true rfl, Nat.le_of_ble_eq_true rfl⟩) (f_pV (ci := 9) hE hS hA hK hP hD hX rfl (IM_recv I2)) rfl rfl hl.1 rfl (lv_room (Nat.le_of_ble_eq_true rfl)) dL_law_747 ⟨by show _ + 0 ≤ 600000; omega, by show _ + 0 ≤ 7302250; omega⟩) hP hD hS hA (fun r13 w2 H locs hp hP hD hS => ?_)
  obtain ⟨I2, h14⟩ := hp
  have hP : va_P (dC, dI) vwCl (w1 ++ w2) H := f_Pm List.perm_append_comm hP
  have hD : va_D (fun q : Nat => s.heap.size ≤ q) (w1 ++ w2) := f_Dm List.perm_append_comm hD
  refine lv_pop2_2 hx hb dL_law_750 rfl ?_
  refine lv_goto (tgt := 1615) hx hb dL_law_751 (by decide) ?_
  refine W.widen (k := cells + 18) (n := slots + 1522) (by omega) (by omega) ?_
  exact kk w1 w2 H locs ls I1 I2 hP hD hS (lv_sub hl [0, 1, 2, 3] rfl)
set_option maxHeartbeats 8000000 in
set_option maxRecDepth 100000 in
theorem law_case18 {p : Program} {e : Env} {s : State} {m : MethodId} {below : List Frame} {meth : Method} {c : Code} {b L : Nat} {xs : Nat → Int32} (l : Launch) (dC : Nat → ClassId) (dI : Nat → Nat → Nat) (cB cI cJ cZ cP cQ : ClassId) (adK adV : Nat → Nat) (q0 : Option Nat) (a1 a2 : Nat) (x3 : Int32) (C0 : lw_At p s m meth c b L xs) (hL : L ≤ 3072) (hK : va_K (dC, dI) vwCl (zT cB cI cJ cZ cP cQ) s) (hX : zX zNW zAO s) (hE : zE adK adV q0 (fun q : Nat => s.heap.size ≤ q) s s.heap) (i cells slots : Nat) (hi : x3.toInt = i) (hiL : i + 6 ≤ L) (hc : cells + 18 ≤ 600000) (hs : slots + 1522 ≤ 7302250) (w1 w2 : va_W) (I1 : IX cB cI cJ cZ cP cQ a1 w1) (I2 : IM cB cI cJ cZ cP cQ a2 w2) (H : Heap) (locs : List Loc) (hP : va_P (dC, dI) vwCl (w1 ++ w2) H) (hD : va_D (fun q : Nat => s.heap.size ≤ q) (w1 ++ w2)) (hS : va_S (fun q : Nat => s.heap.size ≤ q) s.heap H locs) (ls : Array Slot) (hl : lv_has ls 4 [(3, .int x3), (2, .ref a2), (1, .ref a1), (0, .ref b)]) (kk : ∀ (w1 w2 : va_W) (H : Heap) (locs : List Loc) (ls : Array Slot), IX cB cI cJ cZ cP cQ a1 w1 → IM cB cI cJ cZ cP cQ a2 w2 → va_P (dC, dI) vwCl (w1 ++ w2) H → va_D (fun q : Nat => s.heap.size ≤ q) (w1 ++ w2) → va_S (fun q : Nat => s.heap.size ≤ q) s.heap H locs → lv_has ls 4 [(3, .int x3), (2, .ref a2), (1, .ref a1), (0, .ref b)] → W p l e room_1 s m #[Value.ref b] below meth c H locs (cells + 18) (slots + 1522) (lw_Z below #[Value.ref b] s) (F0 m 1615 ls [])) : W p l e room_1 s m #[Value.ref b] below meth c H locs cells slots (lw_Z below #[Value.ref b] s) (F0 m 754 ls []) := by
  obtain ⟨hx, hb, hr, hml, hown, hts, hXs, hbl, hlocks, hgv⟩ := id C0
  have hown : s.vm.findClass RL = some m.cls := hown
  have hA : ∀ q : Nat, s.heap.size ≤ q → (fun q : Nat => s.heap.size ≤ q) q := fun _ h => h
  have hbA : ¬ (fun q : Nat => s.heap.size ≤ q) b := Nat.not_le.mpr hbl
  refine lv_aload_n hx hb dL_law_754 rfl (lv_at hl 2 rfl) ?_
  refine lv_aload_n hx hb dL_law_755 rfl (lv_at hl 3 rfl) ?_
  refine lv_iload_n hx hb dL_law_756 rfl (lv_at hl 0 rfl) ?_
  refine lv_iconst (v := 1) hx hb dL_law_757 (by decide) ?_
  refine lv_iadd hx hb dL_law_758 ?_
  refine lv_topi (fun r1 h2 => ?_)
  have f3 : r1.toInt = x3.toInt + 1 := z_iadd h2 rfl (show Int32.toInt 1 = 1 from by decide) (by omega) (by omega)
  refine va_sld hx hb hXs hbl hbA hS (z_in rfl (by omega) (by omega)) dL_law_759 ?_
  refine lv_topi (fun a4 h5 => ?_)
  refine f_finl (va_runV (As := [.int a4]) (rest := []) ⟨hx, hb, hml, hown, hts⟩ (q_X8_strong l dC dI cB cI cJ cZ cP cQ adK adV q0 a1 H.size w1 a4 I1) (cwV 1 hts gT_X8_strong rfl rfl rfl (by decide +kernel) ⟨Nat.le_of_ble_eq_true rfl, Nat.le_of_ble_eq_true rfl⟩) (f_pV (ci := 8) hE hS hA hK hP hD hX rfl (IX_recv I1)) rfl rfl hl.1 rfl (lv_room (Nat.le_of_ble_eq_true rfl)) dL_law_760 ⟨by show _ + 0 ≤ 600000; omega, by show _ + 0 ≤ 7302250; omega⟩) hP hD hS hA (fun r6 w1 H locs hp hP hD hS => ?_)
  obtain ⟨I1, h7⟩ := hp
  refine lv_pop2_2 hx hb dL_law_763 rfl ?_
  refine lv_aload_n hx hb dL_law_764 rfl (lv_at hl 1 rfl) ?_
  refine lv_aload_n hx hb dL_law_765 rfl (lv_at hl 3 rfl) ?_
  refine lv_iload_n hx hb dL_law_766 rfl (lv_at hl 0 rfl) ?_
  refine lv_iconst (v := 1) hx hb dL_law_767 (by decide) ?_
  refine lv_iadd hx hb dL_law_768 ?_
  refine lv_topi (fun r8 h9 => ?_)
  have f10 : r8.toInt = x3.toInt + 1 := z_iadd h9 rfl (show Int32.toInt 1 = 1 from by decide) (by omega) (by omega)
  refine va_sld hx hb hXs hbl hbA hS (z_in rfl (by omega) (by omega)) dL_law_769 ?_
  refine lv_topi (fun a11 h12 => ?_)
  have hP : va_P (dC, dI) vwCl (w2 ++ w1) H := f_Pm List.perm_append_comm hP
  have hD : va_D (fun q : Nat => s.heap.size ≤ q) (w2 ++ w1) := f_Dm List.perm_append_comm hD
  refine f_finl (va_runV (As := [.int a11]) (rest := []) ⟨hx, hb, hml, hown, hts⟩ (q_X9_strong l dC dI cB cI cJ cZ cP cQ adK adV q0 a2 H.size w2 a11 I2) (cwV 1 hts gT_X9_strong rfl rfl rfl (by decide +kernel) ⟨Nat.le_of_ble_eq_true rfl, Nat.le_of_ble_eq_true rfl⟩) (f_pV (ci := 9) hE hS hA hK hP hD hX rfl (IM_recv I2)) rfl rfl hl.1 rfl (lv_room (Nat.le_of_ble_eq_true rfl)) dL_law_770 ⟨by show _ + 0 ≤ 600000; omega, by show _ + 0 ≤ 7302250; omega⟩) hP hD hS hA (fun r13 w2 H locs hp hP hD hS => ?_)
  obtain ⟨I2, h14⟩ := hp
  have hP : va_P (dC, dI) vwCl (w1 ++ w2) H := f_Pm List.perm_append_comm hP
  have hD : va_D (fun q : Nat => s.heap.size ≤ q) (w1 ++ w2) := f_Dm List.perm_append_comm hD
  refine lv_pop2_2 hx hb dL_law_773 rfl ?_
  refine lv_goto (tgt := 1615) hx hb dL_law_774 (by decide) ?_
  refine W.widen (k := cells + 18) (n := slots + 1522) (by omega) (by omega) ?_
  exact kk w1 w2 H locs ls I1 I2 hP hD hS (lv_sub hl [0, 1, 2, 3] rfl)
set_option maxHeartbeats 8000000 in
set_option maxRecDepth 100000 in
theorem law_case19 {p : Program} {e : Env} {s : State} {m : MethodId} {below : List Frame} {meth : Method} {c : Code} {b L : Nat} {xs : Nat → Int32} (l : Launch) (dC : Nat → ClassId) (dI : Nat → Nat → Nat) (cB cI cJ cZ cP cQ : ClassId) (adK adV : Nat → Nat) (q0 : Option Nat) (a1 a2 : Nat) (x3 : Int32) (C0 : lw_At p s m meth c b L xs) (hL : L ≤ 3072) (hK : va_K (dC, dI) vwCl (zT cB cI cJ cZ cP cQ) s) (hX : zX zNW zAO s) (hE : zE adK adV q0 (fun q : Nat => s.heap.size ≤ q) s s.heap) (i cells slots : Nat) (hi : x3.toInt = i) (hiL : i + 6 ≤ L) (hc : cells + 18 ≤ 600000) (hs : slots + 1522 ≤ 7302250) (w1 w2 : va_W) (I1 : IX cB cI cJ cZ cP cQ a1 w1) (I2 : IM cB cI cJ cZ cP cQ a2 w2) (H : Heap) (locs : List Loc) (hP : va_P (dC, dI) vwCl (w1 ++ w2) H) (hD : va_D (fun q : Nat => s.heap.size ≤ q) (w1 ++ w2)) (hS : va_S (fun q : Nat => s.heap.size ≤ q) s.heap H locs) (ls : Array Slot) (hl : lv_has ls 4 [(3, .int x3), (2, .ref a2), (1, .ref a1), (0, .ref b)]) (kk : ∀ (w1 w2 : va_W) (H : Heap) (locs : List Loc) (ls : Array Slot), IX cB cI cJ cZ cP cQ a1 w1 → IM cB cI cJ cZ cP cQ a2 w2 → va_P (dC, dI) vwCl (w1 ++ w2) H → va_D (fun q : Nat => s.heap.size ≤ q) (w1 ++ w2) → va_S (fun q : Nat => s.heap.size ≤ q) s.heap H locs → lv_has ls 4 [(3, .int x3), (2, .ref a2), (1, .ref a1), (0, .ref b)] → W p l e room_1 s m #[Value.ref b] below meth c H locs (cells + 18) (slots + 1522) (lw_Z below #[Value.ref b] s) (F0 m 1615 ls [])) : W p l e room_1 s m #[Value.ref b] below meth c H locs cells slots (lw_Z below #[Value.ref b] s) (F0 m 777 ls []) := by
  obtain ⟨hx, hb, hr, hml, hown, hts, hXs, hbl, hlocks, hgv⟩ := id C0
  have hown : s.vm.findClass RL = some m.cls := hown
  have hA : ∀ q : Nat, s.heap.size ≤ q → (fun q : Nat => s.heap.size ≤ q) q := fun _ h => h
  have hbA : ¬ (fun q : Nat => s.heap.size ≤ q) b := Nat.not_le.mpr hbl
  refine lv_aload_n hx hb dL_law_777 rfl (lv_at hl 2 rfl) ?_
  refine f_fini (va_runV (As := []) (rest := []) ⟨hx, hb, hml, hown, hts⟩ (q_X8_strongest l dC dI cB cI cJ cZ cP cQ adK adV q0 a1 H.size w1 I1) (cwV 0 hts gT_X8_strongest rfl rfl rfl (by decide +kernel) ⟨Nat.le_of_ble_eq_true rfl, Nat.le_of_ble_eq_true rfl⟩) (f_pV (ci := 8) hE hS hA hK hP hD hX rfl (IX_recv I1)) rfl rfl hl.1 rfl (lv_room (Nat.le_of_ble_eq_true rfl)) dL_law_778 ⟨by show _ + 0 ≤ 600000; omega, by show _ + 0 ≤ 7302250; omega⟩) hP hD hS hA (fun r1 w1 H locs hp hP hD hS => ?_)
  obtain ⟨I1, h2⟩ := hp
  refine lv_pop hx hb dL_law_781 rfl ?_
  refine lv_aload_n hx hb dL_law_782 rfl (lv_at hl 1 rfl) ?_
  have hP : va_P (dC, dI) vwCl (w2 ++ w1) H := f_Pm List.perm_append_comm hP
  have hD : va_D (fun q : Nat => s.heap.size ≤ q) (w2 ++ w1) := f_Dm List.perm_append_comm hD
  refine f_fini (va_runV (As := []) (rest := []) ⟨hx, hb, hml, hown, hts⟩ (q_X9_strongest l dC dI cB cI cJ cZ cP cQ adK adV q0 a2 H.size w2 I2) (cwV 0 hts gT_X9_strongest rfl rfl rfl (by decide +kernel) ⟨Nat.le_of_ble_eq_true rfl, Nat.le_of_ble_eq_true rfl⟩) (f_pV (ci := 9) hE hS hA hK hP hD hX rfl (IM_recv I2)) rfl rfl hl.1 rfl (lv_room (Nat.le_of_ble_eq_true rfl)) dL_law_783 ⟨by show _ + 0 ≤ 600000; omega, by show _ + 0 ≤ 7302250; omega⟩) hP hD hS hA (fun r3 w2 H locs hp hP hD hS => ?_)
  obtain ⟨I2, h4⟩ := hp
  have hP : va_P (dC, dI) vwCl (w1 ++ w2) H := f_Pm List.perm_append_comm hP
  have hD : va_D (fun q : Nat => s.heap.size ≤ q) (w1 ++ w2) := f_Dm List.perm_append_comm hD
  refine lv_pop hx hb dL_law_786 rfl ?_
  refine lv_goto (tgt := 1615) hx hb dL_law_787 (by decide) ?_
  refine W.widen (k := cells + 18) (n := slots + 1522) (by omega) (by omega) ?_
  exact kk w1 w2 H locs ls I1 I2 hP hD hS (lv_sub hl [0, 1, 2, 3] rfl)
set_option maxHeartbeats 8000000 in
set_option maxRecDepth 100000 in
theorem law_case20 {p : Program} {e : Env} {s : State} {m : MethodId} {below : List Frame} {meth : Method} {c : Code} {b L : Nat} {xs : Nat → Int32} (l : Launch) (dC : Nat → ClassId) (dI : Nat → Nat → Nat) (cB cI cJ cZ cP cQ : ClassId) (adK adV : Nat → Nat) (q0 : Option Nat) (a1 a2 : Nat) (x3 : Int32) (C0 : lw_At p s m meth c b L xs) (hL : L ≤ 3072) (hK : va_K (dC, dI) vwCl (zT cB cI cJ cZ cP cQ) s) (hX : zX zNW zAO s) (hE : zE adK adV q0 (fun q : Nat => s.heap.size ≤ q) s s.heap) (i cells slots : Nat) (hi : x3.toInt = i) (hiL : i + 6 ≤ L) (hc : cells + 18 ≤ 600000) (hs : slots + 1522 ≤ 7302250) (w1 w2 : va_W) (I1 : IX cB cI cJ cZ cP cQ a1 w1) (I2 : IM cB cI cJ cZ cP cQ a2 w2) (H : Heap) (locs : List Loc) (hP : va_P (dC, dI) vwCl (w1 ++ w2) H) (hD : va_D (fun q : Nat => s.heap.size ≤ q) (w1 ++ w2)) (hS : va_S (fun q : Nat => s.heap.size ≤ q) s.heap H locs) (ls : Array Slot) (hl : lv_has ls 4 [(3, .int x3), (2, .ref a2), (1, .ref a1), (0, .ref b)]) (kk : ∀ (w1 w2 : va_W) (H : Heap) (locs : List Loc) (ls : Array Slot), IX cB cI cJ cZ cP cQ a1 w1 → IM cB cI cJ cZ cP cQ a2 w2 → va_P (dC, dI) vwCl (w1 ++ w2) H → va_D (fun q : Nat => s.heap.size ≤ q) (w1 ++ w2) → va_S (fun q : Nat => s.heap.size ≤ q) s.heap H locs → lv_has ls 4 [(3, .int x3), (2, .ref a2), (1, .ref a1), (0, .ref b)] → W p l e room_1 s m #[Value.ref b] below meth c H locs (cells + 18) (slots + 1522) (lw_Z below #[Value.ref b] s) (F0 m 1615 ls [])) : W p l e room_1 s m #[Value.ref b] below meth c H locs cells slots (lw_Z below #[Value.ref b] s) (F0 m 790 ls []) := by
  obtain ⟨hx, hb, hr, hml, hown, hts, hXs, hbl, hlocks, hgv⟩ := id C0
  have hown : s.vm.findClass RL = some m.cls := hown
  have hA : ∀ q : Nat, s.heap.size ≤ q → (fun q : Nat => s.heap.size ≤ q) q := fun _ h => h
  have hbA : ¬ (fun q : Nat => s.heap.size ≤ q) b := Nat.not_le.mpr hbl
  refine lv_aload_n hx hb dL_law_790 rfl (lv_at hl 2 rfl) ?_
  refine lv_aload_n hx hb dL_law_791 rfl (lv_at hl 3 rfl) ?_
  refine lv_iload_n hx hb dL_law_792 rfl (lv_at hl 0 rfl) ?_
  refine lv_iconst (v := 1) hx hb dL_law_793 (by decide) ?_
  refine lv_iadd hx hb dL_law_794 ?_
  refine lv_topi (fun r1 h2 => ?_)
  have f3 : r1.toInt = x3.toInt + 1 := z_iadd h2 rfl (show Int32.toInt 1 = 1 from by decide) (by omega) (by omega)
  refine va_sld hx hb hXs hbl hbA hS (z_in rfl (by omega) (by omega)) dL_law_795 ?_
  refine lv_topi (fun a4 h5 => ?_)
  refine lv_aload_n hx hb dL_law_796 rfl (lv_at hl 3 rfl) ?_
  refine lv_iload_n hx hb dL_law_797 rfl (lv_at hl 0 rfl) ?_
  refine lv_iconst (v := 2) hx hb dL_law_798 (by decide) ?_
  refine lv_iadd hx hb dL_law_799 ?_
  refine lv_topi (fun r6 h7 => ?_)
  have f8 : r6.toInt = x3.toInt + 2 := z_iadd h7 rfl (show Int32.toInt 2 = 2 from by decide) (by omega) (by omega)
  refine va_sld hx hb hXs hbl hbA hS (z_in rfl (by omega) (by omega)) dL_law_800 ?_
  refine lv_topi (fun a9 h10 => ?_)
  refine lv_aload_n hx hb dL_law_801 rfl (lv_at hl 3 rfl) ?_
  refine lv_iload_n hx hb dL_law_802 rfl (lv_at hl 0 rfl) ?_
  refine lv_iconst (v := 3) hx hb dL_law_803 (by decide) ?_
  refine lv_iadd hx hb dL_law_804 ?_
  refine lv_topi (fun r11 h12 => ?_)
  have f13 : r11.toInt = x3.toInt + 3 := z_iadd h12 rfl (show Int32.toInt 3 = 3 from by decide) (by omega) (by omega)
  refine va_sld hx hb hXs hbl hbA hS (z_in rfl (by omega) (by omega)) dL_law_805 ?_
  refine lv_topi (fun a14 h15 => ?_)
  refine f_fini (va_runV (As := [.int a4, .int a9, .int a14]) (rest := []) ⟨hx, hb, hml, hown, hts⟩ (q_X8_span l dC dI cB cI cJ cZ cP cQ adK adV q0 a1 H.size w1 a4 a9 a14 I1) (cwV 3 hts gT_X8_span rfl rfl rfl (by decide +kernel) ⟨Nat.le_of_ble_eq_true rfl, Nat.le_of_ble_eq_true rfl⟩) (f_pV (ci := 8) hE hS hA hK hP hD hX rfl (IX_recv I1)) rfl rfl hl.1 rfl (lv_room (Nat.le_of_ble_eq_true rfl)) dL_law_806 ⟨by show _ + 0 ≤ 600000; omega, by show _ + 0 ≤ 7302250; omega⟩) hP hD hS hA (fun r16 w1 H locs hp hP hD hS => ?_)
  obtain ⟨I1, h17⟩ := hp
  refine lv_pop hx hb dL_law_809 rfl ?_
  refine lv_aload_n hx hb dL_law_810 rfl (lv_at hl 1 rfl) ?_
  refine lv_aload_n hx hb dL_law_811 rfl (lv_at hl 3 rfl) ?_
  refine lv_iload_n hx hb dL_law_812 rfl (lv_at hl 0 rfl) ?_
  refine lv_iconst (v := 1) hx hb dL_law_813 (by decide) ?_
  refine lv_iadd hx hb dL_law_814 ?_
  refine lv_topi (fun r18 h19 => ?_)
  have f20 : r18.toInt = x3.toInt + 1 := z_iadd h19 rfl (show Int32.toInt 1 = 1 from by decide) (by omega) (by omega)
  refine va_sld hx hb hXs hbl hbA hS (z_in rfl (by omega) (by omega)) dL_law_815 ?_
  refine lv_topi (fun a21 h22 => ?_)
  refine lv_aload_n hx hb dL_law_816 rfl (lv_at hl 3 rfl) ?_
  refine lv_iload_n hx hb dL_law_817 rfl (lv_at hl 0 rfl) ?_
  refine lv_iconst (v := 2) hx hb dL_law_818 (by decide) ?_
  refine lv_iadd hx hb dL_law_819 ?_
  refine lv_topi (fun r23 h24 => ?_)
  have f25 : r23.toInt = x3.toInt + 2 := z_iadd h24 rfl (show Int32.toInt 2 = 2 from by decide) (by omega) (by omega)
  refine va_sld hx hb hXs hbl hbA hS (z_in rfl (by omega) (by omega)) dL_law_820 ?_
  refine lv_topi (fun a26 h27 => ?_)
  refine lv_aload_n hx hb dL_law_821 rfl (lv_at hl 3 rfl) ?_
  refine lv_iload_n hx hb dL_law_822 rfl (lv_at hl 0 rfl) ?_
  refine lv_iconst (v := 3) hx hb dL_law_823 (by decide) ?_
  refine lv_iadd hx hb dL_law_824 ?_
  refine lv_topi (fun r28 h29 => ?_)
  have f30 : r28.toInt = x3.toInt + 3 := z_iadd h29 rfl (show Int32.toInt 3 = 3 from by decide) (by omega) (by omega)
  refine va_sld hx hb hXs hbl hbA hS (z_in rfl (by omega) (by omega)) dL_law_825 ?_
  refine lv_topi (fun a31 h32 => ?_)
  have hP : va_P (dC, dI) vwCl (w2 ++ w1) H := f_Pm List.perm_append_comm hP
  have hD : va_D (fun q : Nat => s.heap.size ≤ q) (w2 ++ w1) := f_Dm List.perm_append_comm hD
  refine f_fini (va_runV (As := [.int a21, .int a26, .int a31]) (rest := []) ⟨hx, hb, hml, hown, hts⟩ (q_X9_span l dC dI cB cI cJ cZ cP cQ adK adV q0 a2 H.size w2 a21 a26 a31 I2) (cwV 3 hts gT_X9_span rfl rfl rfl (by decide +kernel) ⟨Nat.le_of_ble_eq_true rfl, Nat.le_of_ble_eq_true rfl⟩) (f_pV (ci := 9) hE hS hA hK hP hD hX rfl (IM_recv I2)) rfl rfl hl.1 rfl (lv_room (Nat.le_of_ble_eq_true rfl)) dL_law_826 ⟨by show _ + 0 ≤ 600000; omega, by show _ + 0 ≤ 7302250; omega⟩) hP hD hS hA (fun r33 w2 H locs hp hP hD hS => ?_)
  obtain ⟨I2, h34⟩ := hp
  have hP : va_P (dC, dI) vwCl (w1 ++ w2) H := f_Pm List.perm_append_comm hP
  have hD : va_D (fun q : Nat => s.heap.size ≤ q) (w1 ++ w2) := f_Dm List.perm_append_comm hD
  refine lv_pop hx hb dL_law_829 rfl ?_
  refine lv_goto (tgt := 1615) hx hb dL_law_830 (by decide) ?_
  refine W.widen (k := cells + 18) (n := slots + 1522) (by omega) (by omega) ?_
  exact kk w1 w2 H locs ls I1 I2 hP hD hS (lv_sub hl [0, 1, 2, 3] rfl)
set_option maxHeartbeats 8000000 in
set_option maxRecDepth 100000 in
theorem law_case21 {p : Program} {e : Env} {s : State} {m : MethodId} {below : List Frame} {meth : Method} {c : Code} {b L : Nat} {xs : Nat → Int32} (l : Launch) (dC : Nat → ClassId) (dI : Nat → Nat → Nat) (cB cI cJ cZ cP cQ : ClassId) (adK adV : Nat → Nat) (q0 : Option Nat) (a1 a2 : Nat) (x3 : Int32) (C0 : lw_At p s m meth c b L xs) (hL : L ≤ 3072) (hK : va_K (dC, dI) vwCl (zT cB cI cJ cZ cP cQ) s) (hX : zX zNW zAO s) (hE : zE adK adV q0 (fun q : Nat => s.heap.size ≤ q) s s.heap) (i cells slots : Nat) (hi : x3.toInt = i) (hiL : i + 6 ≤ L) (hc : cells + 18 ≤ 600000) (hs : slots + 1522 ≤ 7302250) (w1 w2 : va_W) (I1 : IX cB cI cJ cZ cP cQ a1 w1) (I2 : IM cB cI cJ cZ cP cQ a2 w2) (H : Heap) (locs : List Loc) (hP : va_P (dC, dI) vwCl (w1 ++ w2) H) (hD : va_D (fun q : Nat => s.heap.size ≤ q) (w1 ++ w2)) (hS : va_S (fun q : Nat => s.heap.size ≤ q) s.heap H locs) (ls : Array Slot) (hl : lv_has ls 4 [(3, .int x3), (2, .ref a2), (1, .ref a1), (0, .ref b)]) (kk : ∀ (w1 w2 : va_W) (H : Heap) (locs : List Loc) (ls : Array Slot), IX cB cI cJ cZ cP cQ a1 w1 → IM cB cI cJ cZ cP cQ a2 w2 → va_P (dC, dI) vwCl (w1 ++ w2) H → va_D (fun q : Nat => s.heap.size ≤ q) (w1 ++ w2) → va_S (fun q : Nat => s.heap.size ≤ q) s.heap H locs → lv_has ls 4 [(3, .int x3), (2, .ref a2), (1, .ref a1), (0, .ref b)] → W p l e room_1 s m #[Value.ref b] below meth c H locs (cells + 18) (slots + 1522) (lw_Z below #[Value.ref b] s) (F0 m 1615 ls [])) : W p l e room_1 s m #[Value.ref b] below meth c H locs cells slots (lw_Z below #[Value.ref b] s) (F0 m 833 ls []) := by
  obtain ⟨hx, hb, hr, hml, hown, hts, hXs, hbl, hlocks, hgv⟩ := id C0
  have hown : s.vm.findClass RL = some m.cls := hown
  have hA : ∀ q : Nat, s.heap.size ≤ q → (fun q : Nat => s.heap.size ≤ q) q := fun _ h => h
  have hbA : ¬ (fun q : Nat => s.heap.size ≤ q) b := Nat.not_le.mpr hbl
  refine lv_aload_n hx hb dL_law_833 rfl (lv_at hl 2 rfl) ?_
  refine lv_aload_n hx hb dL_law_834 rfl (lv_at hl 3 rfl) ?_
  refine lv_iload_n hx hb dL_law_835 rfl (lv_at hl 0 rfl) ?_
  refine lv_iconst (v := 1) hx hb dL_law_836 (by decide) ?_
  refine lv_iadd hx hb dL_law_837 ?_
  refine lv_topi (fun r1 h2 => ?_)
  have f3 : r1.toInt = x3.toInt + 1 := z_iadd h2 rfl (show Int32.toInt 1 = 1 from by decide) (by omega) (by omega)
  refine va_sld hx hb hXs hbl hbA hS (z_in rfl (by omega) (by omega)) dL_law_838 ?_
  refine lv_topi (fun a4 h5 => ?_)
  refine lv_aload_n hx hb dL_law_839 rfl (lv_at hl 3 rfl) ?_
  refine lv_iload_n hx hb dL_law_840 rfl (lv_at hl 0 rfl) ?_
  refine lv_iconst (v := 2) hx hb dL_law_841 (by decide) ?_
  refine lv_iadd hx hb dL_law_842 ?_
  refine lv_topi (fun r6 h7 => ?_)
  have f8 : r6.toInt = x3.toInt + 2 := z_iadd h7 rfl (show Int32.toInt 2 = 2 from by decide) (by omega) (by omega)
  refine va_sld hx hb hXs hbl hbA hS (z_in rfl (by omega) (by omega)) dL_law_843 ?_
  refine lv_topi (fun a9 h10 => ?_)
  refine lv_aload_n hx hb dL_law_844 rfl (lv_at hl 3 rfl) ?_
  refine lv_iload_n hx hb dL_law_845 rfl (lv_at hl 0 rfl) ?_
  refine lv_iconst (v := 3) hx hb dL_law_846 (by decide) ?_
  refine lv_iadd hx hb dL_law_847 ?_
  refine lv_topi (fun r11 h12 => ?_)
  have f13 : r11.toInt = x3.toInt + 3 := z_iadd h12 rfl (show Int32.toInt 3 = 3 from by decide) (by omega) (by omega)
  refine va_sld hx hb hXs hbl hbA hS (z_in rfl (by omega) (by omega)) dL_law_848 ?_
  refine lv_topi (fun a14 h15 => ?_)
  refine f_fini (va_runV (As := [.int a4, .int a9, .int a14]) (rest := []) ⟨hx, hb, hml, hown, hts⟩ (q_X8_usual l dC dI cB cI cJ cZ cP cQ adK adV q0 a1 H.size w1 a4 a9 a14 I1) (cwV 3 hts gT_X8_usual rfl rfl rfl (by decide +kernel) ⟨Nat.le_of_ble_eq_true rfl, Nat.le_of_ble_eq_true rfl⟩) (f_pV (ci := 8) hE hS hA hK hP hD hX rfl (IX_recv I1)) rfl rfl hl.1 rfl (lv_room (Nat.le_of_ble_eq_true rfl)) dL_law_849 ⟨by show _ + 0 ≤ 600000; omega, by show _ + 0 ≤ 7302250; omega⟩) hP hD hS hA (fun r16 w1 H locs hp hP hD hS => ?_)
  obtain ⟨I1, h17⟩ := hp
  refine lv_pop hx hb dL_law_852 rfl ?_
  refine lv_aload_n hx hb dL_law_853 rfl (lv_at hl 1 rfl) ?_
  refine lv_aload_n hx hb dL_law_854 rfl (lv_at hl 3 rfl) ?_
  refine lv_iload_n hx hb dL_law_855 rfl (lv_at hl 0 rfl) ?_
  refine lv_iconst (v := 1) hx hb dL_law_856 (by decide) ?_
  refine lv_iadd hx hb dL_law_857 ?_
  refine lv_topi (fun r18 h19 => ?_)
  have f20 : r18.toInt = x3.toInt + 1 := z_iadd h19 rfl (show Int32.toInt 1 = 1 from by decide) (by omega) (by omega)
  refine va_sld hx hb hXs hbl hbA hS (z_in rfl (by omega) (by omega)) dL_law_858 ?_
  refine lv_topi (fun a21 h22 => ?_)
  refine lv_aload_n hx hb dL_law_859 rfl (lv_at hl 3 rfl) ?_
  refine lv_iload_n hx hb dL_law_860 rfl (lv_at hl 0 rfl) ?_
  refine lv_iconst (v := 2) hx hb dL_law_861 (by decide) ?_
  refine lv_iadd hx hb dL_law_862 ?_
  refine lv_topi (fun r23 h24 => ?_)
  have f25 : r23.toInt = x3.toInt + 2 := z_iadd h24 rfl (show Int32.toInt 2 = 2 from by decide) (by omega) (by omega)
  refine va_sld hx hb hXs hbl hbA hS (z_in rfl (by omega) (by omega)) dL_law_863 ?_
  refine lv_topi (fun a26 h27 => ?_)
  refine lv_aload_n hx hb dL_law_864 rfl (lv_at hl 3 rfl) ?_
  refine lv_iload_n hx hb dL_law_865 rfl (lv_at hl 0 rfl) ?_
  refine lv_iconst (v := 3) hx hb dL_law_866 (by decide) ?_
  refine lv_iadd hx hb dL_law_867 ?_
  refine lv_topi (fun r28 h29 => ?_)
  have f30 : r28.toInt = x3.toInt + 3 := z_iadd h29 rfl (show Int32.toInt 3 = 3 from by decide) (by omega) (by omega)
  refine va_sld hx hb hXs hbl hbA hS (z_in rfl (by omega) (by omega)) dL_law_868 ?_
  refine lv_topi (fun a31 h32 => ?_)
  have hP : va_P (dC, dI) vwCl (w2 ++ w1) H := f_Pm List.perm_append_comm hP
  have hD : va_D (fun q : Nat => s.heap.size ≤ q) (w2 ++ w1) := f_Dm List.perm_append_comm hD
  refine f_fini (va_runV (As := [.int a21, .int a26, .int a31]) (rest := []) ⟨hx, hb, hml, hown, hts⟩ (q_X9_usual l dC dI cB cI cJ cZ cP cQ adK adV q0 a2 H.size w2 a21 a26 a31 I2) (cwV 3 hts gT_X9_usual rfl rfl rfl (by decide +kernel) ⟨Nat.le_of_ble_eq_true rfl, Nat.le_of_ble_eq_true rfl⟩) (f_pV (ci := 9) hE hS hA hK hP hD hX rfl (IM_recv I2)) rfl rfl hl.1 rfl (lv_room (Nat.le_of_ble_eq_true rfl)) dL_law_869 ⟨by show _ + 0 ≤ 600000; omega, by show _ + 0 ≤ 7302250; omega⟩) hP hD hS hA (fun r33 w2 H locs hp hP hD hS => ?_)
  obtain ⟨I2, h34⟩ := hp
  have hP : va_P (dC, dI) vwCl (w1 ++ w2) H := f_Pm List.perm_append_comm hP
  have hD : va_D (fun q : Nat => s.heap.size ≤ q) (w1 ++ w2) := f_Dm List.perm_append_comm hD
  refine lv_pop hx hb dL_law_872 rfl ?_
  refine lv_goto (tgt := 1615) hx hb dL_law_873 (by decide) ?_
  refine W.widen (k := cells + 18) (n := slots + 1522) (by omega) (by omega) ?_
  exact kk w1 w2 H locs ls I1 I2 hP hD hS (lv_sub hl [0, 1, 2, 3] rfl)
set_option maxHeartbeats 8000000 in
set_option maxRecDepth 100000 in
theorem law_case22 {p : Program} {e : Env} {s : State} {m : MethodId} {below : List Frame} {meth : Method} {c : Code} {b L : Nat} {xs : Nat → Int32} (l : Launch) (dC : Nat → ClassId) (dI : Nat → Nat → Nat) (cB cI cJ cZ cP cQ : ClassId) (adK adV : Nat → Nat) (q0 : Option Nat) (a1 a2 : Nat) (x3 : Int32) (C0 : lw_At p s m meth c b L xs) (hL : L ≤ 3072) (hK : va_K (dC, dI) vwCl (zT cB cI cJ cZ cP cQ) s) (hX : zX zNW zAO s) (hE : zE adK adV q0 (fun q : Nat => s.heap.size ≤ q) s s.heap) (i cells slots : Nat) (hi : x3.toInt = i) (hiL : i + 6 ≤ L) (hc : cells + 18 ≤ 600000) (hs : slots + 1522 ≤ 7302250) (w1 w2 : va_W) (I1 : IX cB cI cJ cZ cP cQ a1 w1) (I2 : IM cB cI cJ cZ cP cQ a2 w2) (H : Heap) (locs : List Loc) (hP : va_P (dC, dI) vwCl (w1 ++ w2) H) (hD : va_D (fun q : Nat => s.heap.size ≤ q) (w1 ++ w2)) (hS : va_S (fun q : Nat => s.heap.size ≤ q) s.heap H locs) (ls : Array Slot) (hl : lv_has ls 4 [(3, .int x3), (2, .ref a2), (1, .ref a1), (0, .ref b)]) (kk : ∀ (w1 w2 : va_W) (H : Heap) (locs : List Loc) (ls : Array Slot), IX cB cI cJ cZ cP cQ a1 w1 → IM cB cI cJ cZ cP cQ a2 w2 → va_P (dC, dI) vwCl (w1 ++ w2) H → va_D (fun q : Nat => s.heap.size ≤ q) (w1 ++ w2) → va_S (fun q : Nat => s.heap.size ≤ q) s.heap H locs → lv_has ls 4 [(3, .int x3), (2, .ref a2), (1, .ref a1), (0, .ref b)] → W p l e room_1 s m #[Value.ref b] below meth c H locs (cells + 18) (slots + 1522) (lw_Z below #[Value.ref b] s) (F0 m 1615 ls [])) : W p l e room_1 s m #[Value.ref b] below meth c H locs cells slots (lw_Z below #[Value.ref b] s) (F0 m 876 ls []) := by
  obtain ⟨hx, hb, hr, hml, hown, hts, hXs, hbl, hlocks, hgv⟩ := id C0
  have hown : s.vm.findClass RL = some m.cls := hown
  have hA : ∀ q : Nat, s.heap.size ≤ q → (fun q : Nat => s.heap.size ≤ q) q := fun _ h => h
  have hbA : ¬ (fun q : Nat => s.heap.size ≤ q) b := Nat.not_le.mpr hbl
  refine lv_aload_n hx hb dL_law_876 rfl (lv_at hl 2 rfl) ?_
  refine lv_aload_n hx hb dL_law_877 rfl (lv_at hl 3 rfl) ?_
  refine lv_iload_n hx hb dL_law_878 rfl (lv_at hl 0 rfl) ?_
  refine lv_iconst (v := 1) hx hb dL_law_879 (by decide) ?_
  refine lv_iadd hx hb dL_law_880 ?_
  refine lv_topi (fun r1 h2 => ?_)
  have f3 : r1.toInt = x3.toInt + 1 := z_iadd h2 rfl (show Int32.toInt 1 = 1 from by decide) (by omega) (by omega)
  refine va_sld hx hb hXs hbl hbA hS (z_in rfl (by omega) (by omega)) dL_law_881 ?_
  refine lv_topi (fun a4 h5 => ?_)
  refine lv_aload_n hx hb dL_law_882 rfl (lv_at hl 3 rfl) ?_
  refine lv_iload_n hx hb dL_law_883 rfl (lv_at hl 0 rfl) ?_
  refine lv_iconst (v := 2) hx hb dL_law_884 (by decide) ?_
  refine lv_iadd hx hb dL_law_885 ?_
  refine lv_topi (fun r6 h7 => ?_)
  have f8 : r6.toInt = x3.toInt + 2 := z_iadd h7 rfl (show Int32.toInt 2 = 2 from by decide) (by omega) (by omega)
  refine va_sld hx hb hXs hbl hbA hS (z_in rfl (by omega) (by omega)) dL_law_886 ?_
  refine lv_topi (fun a9 h10 => ?_)
  refine lv_aload_n hx hb dL_law_887 rfl (lv_at hl 3 rfl) ?_
  refine lv_iload_n hx hb dL_law_888 rfl (lv_at hl 0 rfl) ?_
  refine lv_iconst (v := 3) hx hb dL_law_889 (by decide) ?_
  refine lv_iadd hx hb dL_law_890 ?_
  refine lv_topi (fun r11 h12 => ?_)
  have f13 : r11.toInt = x3.toInt + 3 := z_iadd h12 rfl (show Int32.toInt 3 = 3 from by decide) (by omega) (by omega)
  refine va_sld hx hb hXs hbl hbA hS (z_in rfl (by omega) (by omega)) dL_law_891 ?_
  refine lv_topi (fun a14 h15 => ?_)
  refine f_fini (va_runV (As := [.int a4, .int a9, .int a14]) (rest := []) ⟨hx, hb, hml, hown, hts⟩ (q_X8_kept l dC dI cB cI cJ cZ cP cQ adK adV q0 a1 H.size w1 a4 a9 a14 I1) (cwV 3 hts gT_X8_kept rfl rfl rfl (by decide +kernel) ⟨Nat.le_of_ble_eq_true rfl, Nat.le_of_ble_eq_true rfl⟩) (f_pV (ci := 8) hE hS hA hK hP hD hX rfl (IX_recv I1)) rfl rfl hl.1 rfl (lv_room (Nat.le_of_ble_eq_true rfl)) dL_law_892 ⟨by show _ + 0 ≤ 600000; omega, by show _ + 0 ≤ 7302250; omega⟩) hP hD hS hA (fun r16 w1 H locs hp hP hD hS => ?_)
  obtain ⟨I1, h17⟩ := hp
  refine lv_pop hx hb dL_law_895 rfl ?_
  refine lv_aload_n hx hb dL_law_896 rfl (lv_at hl 1 rfl) ?_
  refine lv_aload_n hx hb dL_law_897 rfl (lv_at hl 3 rfl) ?_
  refine lv_iload_n hx hb dL_law_898 rfl (lv_at hl 0 rfl) ?_
  refine lv_iconst (v := 1) hx hb dL_law_899 (by decide) ?_
  refine lv_iadd hx hb dL_law_900 ?_
  refine lv_topi (fun r18 h19 => ?_)
  have f20 : r18.toInt = x3.toInt + 1 := z_iadd h19 rfl (show Int32.toInt 1 = 1 from by decide) (by omega) (by omega)
  refine va_sld hx hb hXs hbl hbA hS (z_in rfl (by omega) (by omega)) dL_law_901 ?_
  refine lv_topi (fun a21 h22 => ?_)
  refine lv_aload_n hx hb dL_law_902 rfl (lv_at hl 3 rfl) ?_
  refine lv_iload_n hx hb dL_law_903 rfl (lv_at hl 0 rfl) ?_
  refine lv_iconst (v := 2) hx hb dL_law_904 (by decide) ?_
  refine lv_iadd hx hb dL_law_905 ?_
  refine lv_topi (fun r23 h24 => ?_)
  have f25 : r23.toInt = x3.toInt + 2 := z_iadd h24 rfl (show Int32.toInt 2 = 2 from by decide) (by omega) (by omega)
  refine va_sld hx hb hXs hbl hbA hS (z_in rfl (by omega) (by omega)) dL_law_906 ?_
  refine lv_topi (fun a26 h27 => ?_)
  refine lv_aload_n hx hb dL_law_907 rfl (lv_at hl 3 rfl) ?_
  refine lv_iload_n hx hb dL_law_908 rfl (lv_at hl 0 rfl) ?_
  refine lv_iconst (v := 3) hx hb dL_law_909 (by decide) ?_
  refine lv_iadd hx hb dL_law_910 ?_
  refine lv_topi (fun r28 h29 => ?_)
  have f30 : r28.toInt = x3.toInt + 3 := z_iadd h29 rfl (show Int32.toInt 3 = 3 from by decide) (by omega) (by omega)
  refine va_sld hx hb hXs hbl hbA hS (z_in rfl (by omega) (by omega)) dL_law_911 ?_
  refine lv_topi (fun a31 h32 => ?_)
  have hP : va_P (dC, dI) vwCl (w2 ++ w1) H := f_Pm List.perm_append_comm hP
  have hD : va_D (fun q : Nat => s.heap.size ≤ q) (w2 ++ w1) := f_Dm List.perm_append_comm hD
  refine f_fini (va_runV (As := [.int a21, .int a26, .int a31]) (rest := []) ⟨hx, hb, hml, hown, hts⟩ (q_X9_kept l dC dI cB cI cJ cZ cP cQ adK adV q0 a2 H.size w2 a21 a26 a31 I2) (cwV 3 hts gT_X9_kept rfl rfl rfl (by decide +kernel) ⟨Nat.le_of_ble_eq_true rfl, Nat.le_of_ble_eq_true rfl⟩) (f_pV (ci := 9) hE hS hA hK hP hD hX rfl (IM_recv I2)) rfl rfl hl.1 rfl (lv_room (Nat.le_of_ble_eq_true rfl)) dL_law_912 ⟨by show _ + 0 ≤ 600000; omega, by show _ + 0 ≤ 7302250; omega⟩) hP hD hS hA (fun r33 w2 H locs hp hP hD hS => ?_)
  obtain ⟨I2, h34⟩ := hp
  have hP : va_P (dC, dI) vwCl (w1 ++ w2) H := f_Pm List.perm_append_comm hP
  have hD : va_D (fun q : Nat => s.heap.size ≤ q) (w1 ++ w2) := f_Dm List.perm_append_comm hD
  refine lv_pop hx hb dL_law_915 rfl ?_
  refine lv_goto (tgt := 1615) hx hb dL_law_916 (by decide) ?_
  refine W.widen (k := cells + 18) (n := slots + 1522) (by omega) (by omega) ?_
  exact kk w1 w2 H locs ls I1 I2 hP hD hS (lv_sub hl [0, 1, 2, 3] rfl)
set_option maxHeartbeats 8000000 in
set_option maxRecDepth 100000 in
theorem law_case23 {p : Program} {e : Env} {s : State} {m : MethodId} {below : List Frame} {meth : Method} {c : Code} {b L : Nat} {xs : Nat → Int32} (l : Launch) (dC : Nat → ClassId) (dI : Nat → Nat → Nat) (cB cI cJ cZ cP cQ : ClassId) (adK adV : Nat → Nat) (q0 : Option Nat) (a1 a2 : Nat) (x3 : Int32) (C0 : lw_At p s m meth c b L xs) (hL : L ≤ 3072) (hK : va_K (dC, dI) vwCl (zT cB cI cJ cZ cP cQ) s) (hX : zX zNW zAO s) (hE : zE adK adV q0 (fun q : Nat => s.heap.size ≤ q) s s.heap) (i cells slots : Nat) (hi : x3.toInt = i) (hiL : i + 6 ≤ L) (hc : cells + 18 ≤ 600000) (hs : slots + 1522 ≤ 7302250) (w1 w2 : va_W) (I1 : IX cB cI cJ cZ cP cQ a1 w1) (I2 : IM cB cI cJ cZ cP cQ a2 w2) (H : Heap) (locs : List Loc) (hP : va_P (dC, dI) vwCl (w1 ++ w2) H) (hD : va_D (fun q : Nat => s.heap.size ≤ q) (w1 ++ w2)) (hS : va_S (fun q : Nat => s.heap.size ≤ q) s.heap H locs) (ls : Array Slot) (hl : lv_has ls 4 [(3, .int x3), (2, .ref a2), (1, .ref a1), (0, .ref b)]) (kk : ∀ (w1 w2 : va_W) (H : Heap) (locs : List Loc) (ls : Array Slot), IX cB cI cJ cZ cP cQ a1 w1 → IM cB cI cJ cZ cP cQ a2 w2 → va_P (dC, dI) vwCl (w1 ++ w2) H → va_D (fun q : Nat => s.heap.size ≤ q) (w1 ++ w2) → va_S (fun q : Nat => s.heap.size ≤ q) s.heap H locs → lv_has ls 4 [(3, .int x3), (2, .ref a2), (1, .ref a1), (0, .ref b)] → W p l e room_1 s m #[Value.ref b] below meth c H locs (cells + 18) (slots + 1522) (lw_Z below #[Value.ref b] s) (F0 m 1615 ls [])) : W p l e room_1 s m #[Value.ref b] below meth c H locs cells slots (lw_Z below #[Value.ref b] s) (F0 m 919 ls []) := by
  obtain ⟨hx, hb, hr, hml, hown, hts, hXs, hbl, hlocks, hgv⟩ := id C0
  have hown : s.vm.findClass RL = some m.cls := hown
  have hA : ∀ q : Nat, s.heap.size ≤ q → (fun q : Nat => s.heap.size ≤ q) q := fun _ h => h
  have hbA : ¬ (fun q : Nat => s.heap.size ≤ q) b := Nat.not_le.mpr hbl
  refine lv_aload_n hx hb dL_law_919 rfl (lv_at hl 2 rfl) ?_
  refine lv_aload_n hx hb dL_law_920 rfl (lv_at hl 3 rfl) ?_
  refine lv_iload_n hx hb dL_law_921 rfl (lv_at hl 0 rfl) ?_
  refine lv_iconst (v := 1) hx hb dL_law_922 (by decide) ?_
  refine lv_iadd hx hb dL_law_923 ?_
  refine lv_topi (fun r1 h2 => ?_)
  have f3 : r1.toInt = x3.toInt + 1 := z_iadd h2 rfl (show Int32.toInt 1 = 1 from by decide) (by omega) (by omega)
  refine va_sld hx hb hXs hbl hbA hS (z_in rfl (by omega) (by omega)) dL_law_924 ?_
  refine lv_topi (fun a4 h5 => ?_)
  refine lv_aload_n hx hb dL_law_925 rfl (lv_at hl 3 rfl) ?_
  refine lv_iload_n hx hb dL_law_926 rfl (lv_at hl 0 rfl) ?_
  refine lv_iconst (v := 2) hx hb dL_law_927 (by decide) ?_
  refine lv_iadd hx hb dL_law_928 ?_
  refine lv_topi (fun r6 h7 => ?_)
  have f8 : r6.toInt = x3.toInt + 2 := z_iadd h7 rfl (show Int32.toInt 2 = 2 from by decide) (by omega) (by omega)
  refine va_sld hx hb hXs hbl hbA hS (z_in rfl (by omega) (by omega)) dL_law_929 ?_
  refine lv_topi (fun a9 h10 => ?_)
  refine lv_aload_n hx hb dL_law_930 rfl (lv_at hl 3 rfl) ?_
  refine lv_iload_n hx hb dL_law_931 rfl (lv_at hl 0 rfl) ?_
  refine lv_iconst (v := 3) hx hb dL_law_932 (by decide) ?_
  refine lv_iadd hx hb dL_law_933 ?_
  refine lv_topi (fun r11 h12 => ?_)
  have f13 : r11.toInt = x3.toInt + 3 := z_iadd h12 rfl (show Int32.toInt 3 = 3 from by decide) (by omega) (by omega)
  refine va_sld hx hb hXs hbl hbA hS (z_in rfl (by omega) (by omega)) dL_law_934 ?_
  refine lv_topi (fun a14 h15 => ?_)
  refine lv_aload_n hx hb dL_law_935 rfl (lv_at hl 3 rfl) ?_
  refine lv_iload_n hx hb dL_law_936 rfl (lv_at hl 0 rfl) ?_
  refine lv_iconst (v := 4) hx hb dL_law_937 (by decide) ?_
  refine lv_iadd hx hb dL_law_938 ?_
  refine lv_topi (fun r16 h17 => ?_)
  have f18 : r16.toInt = x3.toInt + 4 := z_iadd h17 rfl (show Int32.toInt 4 = 4 from by decide) (by omega) (by omega)
  refine va_sld hx hb hXs hbl hbA hS (z_in rfl (by omega) (by omega)) dL_law_939 ?_
  refine lv_topi (fun a19 h20 => ?_)
  refine f_fini (va_runV (As := [.int a4, .int a9, .int a14, .int a19]) (rest := []) ⟨hx, hb, hml, hown, hts⟩ (q_X8_hats l dC dI cB cI cJ cZ cP cQ adK adV q0 a1 H.size w1 a4 a9 a14 a19 I1) (cwV 4 hts gT_X8_hats rfl rfl rfl (by decide +kernel) ⟨Nat.le_of_ble_eq_true rfl, Nat.le_of_ble_eq_true rfl⟩) (f_pV (ci := 8) hE hS hA hK hP hD hX rfl (IX_recv I1)) rfl rfl hl.1 rfl (lv_room (Nat.le_of_ble_eq_true rfl)) dL_law_940 ⟨by show _ + 0 ≤ 600000; omega, by show _ + 0 ≤ 7302250; omega⟩) hP hD hS hA (fun r21 w1 H locs hp hP hD hS => ?_)
  obtain ⟨I1, h22⟩ := hp
  refine lv_pop hx hb dL_law_943 rfl ?_
  refine lv_aload_n hx hb dL_law_944 rfl (lv_at hl 1 rfl) ?_
  refine lv_aload_n hx hb dL_law_945 rfl (lv_at hl 3 rfl) ?_
  refine lv_iload_n hx hb dL_law_946 rfl (lv_at hl 0 rfl) ?_
  refine lv_iconst (v := 1) hx hb dL_law_947 (by decide) ?_
  refine lv_iadd hx hb dL_law_948 ?_
  refine lv_topi (fun r23 h24 => ?_)
  have f25 : r23.toInt = x3.toInt + 1 := z_iadd h24 rfl (show Int32.toInt 1 = 1 from by decide) (by omega) (by omega)
  refine va_sld hx hb hXs hbl hbA hS (z_in rfl (by omega) (by omega)) dL_law_949 ?_
  refine lv_topi (fun a26 h27 => ?_)
  refine lv_aload_n hx hb dL_law_950 rfl (lv_at hl 3 rfl) ?_
  refine lv_iload_n hx hb dL_law_951 rfl (lv_at hl 0 rfl) ?_
  refine lv_iconst (v := 2) hx hb dL_law_952 (by decide) ?_
  refine lv_iadd hx hb dL_law_953 ?_
  refine lv_topi (fun r28 h29 => ?_)
  have f30 : r28.toInt = x3.toInt + 2 := z_iadd h29 rfl (show Int32.toInt 2 = 2 from by decide) (by omega) (by omega)
  refine va_sld hx hb hXs hbl hbA hS (z_in rfl (by omega) (by omega)) dL_law_954 ?_
  refine lv_topi (fun a31 h32 => ?_)
  refine lv_aload_n hx hb dL_law_955 rfl (lv_at hl 3 rfl) ?_
  refine lv_iload_n hx hb dL_law_956 rfl (lv_at hl 0 rfl) ?_
  refine lv_iconst (v := 3) hx hb dL_law_957 (by decide) ?_
  refine lv_iadd hx hb dL_law_958 ?_
  refine lv_topi (fun r33 h34 => ?_)
  have f35 : r33.toInt = x3.toInt + 3 := z_iadd h34 rfl (show Int32.toInt 3 = 3 from by decide) (by omega) (by omega)
  refine va_sld hx hb hXs hbl hbA hS (z_in rfl (by omega) (by omega)) dL_law_959 ?_
  refine lv_topi (fun a36 h37 => ?_)
  refine lv_aload_n hx hb dL_law_960 rfl (lv_at hl 3 rfl) ?_
  refine lv_iload_n hx hb dL_law_961 rfl (lv_at hl 0 rfl) ?_
  refine lv_iconst (v := 4) hx hb dL_law_962 (by decide) ?_
  refine lv_iadd hx hb dL_law_963 ?_
  refine lv_topi (fun r38 h39 => ?_)
  have f40 : r38.toInt = x3.toInt + 4 := z_iadd h39 rfl (show Int32.toInt 4 = 4 from by decide) (by omega) (by omega)
  refine va_sld hx hb hXs hbl hbA hS (z_in rfl (by omega) (by omega)) dL_law_964 ?_
  refine lv_topi (fun a41 h42 => ?_)
  have hP : va_P (dC, dI) vwCl (w2 ++ w1) H := f_Pm List.perm_append_comm hP
  have hD : va_D (fun q : Nat => s.heap.size ≤ q) (w2 ++ w1) := f_Dm List.perm_append_comm hD
  refine f_fini (va_runV (As := [.int a26, .int a31, .int a36, .int a41]) (rest := []) ⟨hx, hb, hml, hown, hts⟩ (q_X9_hats l dC dI cB cI cJ cZ cP cQ adK adV q0 a2 H.size w2 a26 a31 a36 a41 I2) (cwV 4 hts gT_X9_hats rfl rfl rfl (by decide +kernel) ⟨Nat.le_of_ble_eq_true rfl, Nat.le_of_ble_eq_true rfl⟩) (f_pV (ci := 9) hE hS hA hK hP hD hX rfl (IM_recv I2)) rfl rfl hl.1 rfl (lv_room (Nat.le_of_ble_eq_true rfl)) dL_law_965 ⟨by show _ + 0 ≤ 600000; omega, by show _ + 0 ≤ 7302250; omega⟩) hP hD hS hA (fun r43 w2 H locs hp hP hD hS => ?_)
  obtain ⟨I2, h44⟩ := hp
  have hP : va_P (dC, dI) vwCl (w1 ++ w2) H := f_Pm List.perm_append_comm hP
  have hD : va_D (fun q : Nat => s.heap.size ≤ q) (w1 ++ w2) := f_Dm List.perm_append_comm hD
  refine lv_pop hx hb dL_law_968 rfl ?_
  refine lv_goto (tgt := 1615) hx hb dL_law_969 (by decide) ?_
  refine W.widen (k := cells + 18) (n := slots + 1522) (by omega) (by omega) ?_
  exact kk w1 w2 H locs ls I1 I2 hP hD hS (lv_sub hl [0, 1, 2, 3] rfl)
set_option maxHeartbeats 8000000 in
set_option maxRecDepth 100000 in
theorem law_case24 {p : Program} {e : Env} {s : State} {m : MethodId} {below : List Frame} {meth : Method} {c : Code} {b L : Nat} {xs : Nat → Int32} (l : Launch) (dC : Nat → ClassId) (dI : Nat → Nat → Nat) (cB cI cJ cZ cP cQ : ClassId) (adK adV : Nat → Nat) (q0 : Option Nat) (a1 a2 : Nat) (x3 : Int32) (C0 : lw_At p s m meth c b L xs) (hL : L ≤ 3072) (hK : va_K (dC, dI) vwCl (zT cB cI cJ cZ cP cQ) s) (hX : zX zNW zAO s) (hE : zE adK adV q0 (fun q : Nat => s.heap.size ≤ q) s s.heap) (i cells slots : Nat) (hi : x3.toInt = i) (hiL : i + 6 ≤ L) (hc : cells + 18 ≤ 600000) (hs : slots + 1522 ≤ 7302250) (w1 w2 : va_W) (I1 : IX cB cI cJ cZ cP cQ a1 w1) (I2 : IM cB cI cJ cZ cP cQ a2 w2) (H : Heap) (locs : List Loc) (hP : va_P (dC, dI) vwCl (w1 ++ w2) H) (hD : va_D (fun q : Nat => s.heap.size ≤ q) (w1 ++ w2)) (hS : va_S (fun q : Nat => s.heap.size ≤ q) s.heap H locs) (ls : Array Slot) (hl : lv_has ls 4 [(3, .int x3), (2, .ref a2), (1, .ref a1), (0, .ref b)]) (kk : ∀ (w1 w2 : va_W) (H : Heap) (locs : List Loc) (ls : Array Slot), IX cB cI cJ cZ cP cQ a1 w1 → IM cB cI cJ cZ cP cQ a2 w2 → va_P (dC, dI) vwCl (w1 ++ w2) H → va_D (fun q : Nat => s.heap.size ≤ q) (w1 ++ w2) → va_S (fun q : Nat => s.heap.size ≤ q) s.heap H locs → lv_has ls 4 [(3, .int x3), (2, .ref a2), (1, .ref a1), (0, .ref b)] → W p l e room_1 s m #[Value.ref b] below meth c H locs (cells + 18) (slots + 1522) (lw_Z below #[Value.ref b] s) (F0 m 1615 ls [])) : W p l e room_1 s m #[Value.ref b] below meth c H locs cells slots (lw_Z below #[Value.ref b] s) (F0 m 972 ls []) := by
  obtain ⟨hx, hb, hr, hml, hown, hts, hXs, hbl, hlocks, hgv⟩ := id C0
  have hown : s.vm.findClass RL = some m.cls := hown
  have hA : ∀ q : Nat, s.heap.size ≤ q → (fun q : Nat => s.heap.size ≤ q) q := fun _ h => h
  have hbA : ¬ (fun q : Nat => s.heap.size ≤ q) b := Nat.not_le.mpr hbl
  refine lv_aload_n hx hb dL_law_972 rfl (lv_at hl 2 rfl) ?_
  refine lv_aload_n hx hb dL_law_973 rfl (lv_at hl 3 rfl) ?_
  refine lv_iload_n hx hb dL_law_974 rfl (lv_at hl 0 rfl) ?_
  refine lv_iconst (v := 1) hx hb dL_law_975 (by decide) ?_
  refine lv_iadd hx hb dL_law_976 ?_
  refine lv_topi (fun r1 h2 => ?_)
  have f3 : r1.toInt = x3.toInt + 1 := z_iadd h2 rfl (show Int32.toInt 1 = 1 from by decide) (by omega) (by omega)
  refine va_sld hx hb hXs hbl hbA hS (z_in rfl (by omega) (by omega)) dL_law_977 ?_
  refine lv_topi (fun a4 h5 => ?_)
  refine f_finl (va_runV (As := [.int a4]) (rest := []) ⟨hx, hb, hml, hown, hts⟩ (q_X8_leak l dC dI cB cI cJ cZ cP cQ adK adV q0 a1 H.size w1 a4 I1) (cwV 1 hts gT_X8_leak rfl rfl rfl (by decide +kernel) ⟨Nat.le_of_ble_eq_true rfl, Nat.le_of_ble_eq_true rfl⟩) (f_pV (ci := 8) hE hS hA hK hP hD hX rfl (IX_recv I1)) rfl rfl hl.1 rfl (lv_room (Nat.le_of_ble_eq_true rfl)) dL_law_978 ⟨by show _ + 0 ≤ 600000; omega, by show _ + 0 ≤ 7302250; omega⟩) hP hD hS hA (fun r6 w1 H locs hp hP hD hS => ?_)
  obtain ⟨I1, h7⟩ := hp
  refine lv_pop2_2 hx hb dL_law_981 rfl ?_
  refine lv_aload_n hx hb dL_law_982 rfl (lv_at hl 1 rfl) ?_
  refine lv_aload_n hx hb dL_law_983 rfl (lv_at hl 3 rfl) ?_
  refine lv_iload_n hx hb dL_law_984 rfl (lv_at hl 0 rfl) ?_
  refine lv_iconst (v := 1) hx hb dL_law_985 (by decide) ?_
  refine lv_iadd hx hb dL_law_986 ?_
  refine lv_topi (fun r8 h9 => ?_)
  have f10 : r8.toInt = x3.toInt + 1 := z_iadd h9 rfl (show Int32.toInt 1 = 1 from by decide) (by omega) (by omega)
  refine va_sld hx hb hXs hbl hbA hS (z_in rfl (by omega) (by omega)) dL_law_987 ?_
  refine lv_topi (fun a11 h12 => ?_)
  have hP : va_P (dC, dI) vwCl (w2 ++ w1) H := f_Pm List.perm_append_comm hP
  have hD : va_D (fun q : Nat => s.heap.size ≤ q) (w2 ++ w1) := f_Dm List.perm_append_comm hD
  refine f_finl (va_runV (As := [.int a11]) (rest := []) ⟨hx, hb, hml, hown, hts⟩ (q_X9_leak l dC dI cB cI cJ cZ cP cQ adK adV q0 a2 H.size w2 a11 I2) (cwV 1 hts gT_X9_leak rfl rfl rfl (by decide +kernel) ⟨Nat.le_of_ble_eq_true rfl, Nat.le_of_ble_eq_true rfl⟩) (f_pV (ci := 9) hE hS hA hK hP hD hX rfl (IM_recv I2)) rfl rfl hl.1 rfl (lv_room (Nat.le_of_ble_eq_true rfl)) dL_law_988 ⟨by show _ + 0 ≤ 600000; omega, by show _ + 0 ≤ 7302250; omega⟩) hP hD hS hA (fun r13 w2 H locs hp hP hD hS => ?_)
  obtain ⟨I2, h14⟩ := hp
  have hP : va_P (dC, dI) vwCl (w1 ++ w2) H := f_Pm List.perm_append_comm hP
  have hD : va_D (fun q : Nat => s.heap.size ≤ q) (w1 ++ w2) := f_Dm List.perm_append_comm hD
  refine lv_pop2_2 hx hb dL_law_991 rfl ?_
  refine lv_goto (tgt := 1615) hx hb dL_law_992 (by decide) ?_
  refine W.widen (k := cells + 18) (n := slots + 1522) (by omega) (by omega) ?_
  exact kk w1 w2 H locs ls I1 I2 hP hD hS (lv_sub hl [0, 1, 2, 3] rfl)
set_option maxHeartbeats 8000000 in
set_option maxRecDepth 100000 in
theorem law_case25 {p : Program} {e : Env} {s : State} {m : MethodId} {below : List Frame} {meth : Method} {c : Code} {b L : Nat} {xs : Nat → Int32} (l : Launch) (dC : Nat → ClassId) (dI : Nat → Nat → Nat) (cB cI cJ cZ cP cQ : ClassId) (adK adV : Nat → Nat) (q0 : Option Nat) (a1 a2 : Nat) (x3 : Int32) (C0 : lw_At p s m meth c b L xs) (hL : L ≤ 3072) (hK : va_K (dC, dI) vwCl (zT cB cI cJ cZ cP cQ) s) (hX : zX zNW zAO s) (hE : zE adK adV q0 (fun q : Nat => s.heap.size ≤ q) s s.heap) (i cells slots : Nat) (hi : x3.toInt = i) (hiL : i + 6 ≤ L) (hc : cells + 18 ≤ 600000) (hs : slots + 1522 ≤ 7302250) (w1 w2 : va_W) (I1 : IX cB cI cJ cZ cP cQ a1 w1) (I2 : IM cB cI cJ cZ cP cQ a2 w2) (H : Heap) (locs : List Loc) (hP : va_P (dC, dI) vwCl (w1 ++ w2) H) (hD : va_D (fun q : Nat => s.heap.size ≤ q) (w1 ++ w2)) (hS : va_S (fun q : Nat => s.heap.size ≤ q) s.heap H locs) (ls : Array Slot) (hl : lv_has ls 4 [(3, .int x3), (2, .ref a2), (1, .ref a1), (0, .ref b)]) (kk : ∀ (w1 w2 : va_W) (H : Heap) (locs : List Loc) (ls : Array Slot), IX cB cI cJ cZ cP cQ a1 w1 → IM cB cI cJ cZ cP cQ a2 w2 → va_P (dC, dI) vwCl (w1 ++ w2) H → va_D (fun q : Nat => s.heap.size ≤ q) (w1 ++ w2) → va_S (fun q : Nat => s.heap.size ≤ q) s.heap H locs → lv_has ls 4 [(3, .int x3), (2, .ref a2), (1, .ref a1), (0, .ref b)] → W p l e room_1 s m #[Value.ref b] below meth c H locs (cells + 18) (slots + 1522) (lw_Z below #[Value.ref b] s) (F0 m 1615 ls [])) : W p l e room_1 s m #[Value.ref b] below meth c H locs cells slots (lw_Z below #[Value.ref b] s) (F0 m 995 ls []) := by
  obtain ⟨hx, hb, hr, hml, hown, hts, hXs, hbl, hlocks, hgv⟩ := id C0
  have hown : s.vm.findClass RL = some m.cls := hown
  have hA : ∀ q : Nat, s.heap.size ≤ q → (fun q : Nat => s.heap.size ≤ q) q := fun _ h => h
  have hbA : ¬ (fun q : Nat => s.heap.size ≤ q) b := Nat.not_le.mpr hbl
  refine lv_aload_n hx hb dL_law_995 rfl (lv_at hl 2 rfl) ?_
  refine lv_aload_n hx hb dL_law_996 rfl (lv_at hl 3 rfl) ?_
  refine lv_iload_n hx hb dL_law_997 rfl (lv_at hl 0 rfl) ?_
  refine lv_iconst (v := 1) hx hb dL_law_998 (by decide) ?_
  refine lv_iadd hx hb dL_law_999 ?_
  refine lv_topi (fun r1 h2 => ?_)
  have f3 : r1.toInt = x3.toInt + 1 := z_iadd h2 rfl (show Int32.toInt 1 = 1 from by decide) (by omega) (by omega)
  refine va_sld hx hb hXs hbl hbA hS (z_in rfl (by omega) (by omega)) dL_law_1000 ?_
  refine lv_topi (fun a4 h5 => ?_)
  refine lv_aload_n hx hb dL_law_1001 rfl (lv_at hl 3 rfl) ?_
  refine lv_iload_n hx hb dL_law_1002 rfl (lv_at hl 0 rfl) ?_
  refine lv_iconst (v := 2) hx hb dL_law_1003 (by decide) ?_
  refine lv_iadd hx hb dL_law_1004 ?_
  refine lv_topi (fun r6 h7 => ?_)
  have f8 : r6.toInt = x3.toInt + 2 := z_iadd h7 rfl (show Int32.toInt 2 = 2 from by decide) (by omega) (by omega)
  refine va_sld hx hb hXs hbl hbA hS (z_in rfl (by omega) (by omega)) dL_law_1005 ?_
  refine lv_topi (fun a9 h10 => ?_)
  refine f_finl (va_runV (As := [.int a4, .int a9]) (rest := []) ⟨hx, hb, hml, hown, hts⟩ (q_X8_leaked l dC dI cB cI cJ cZ cP cQ adK adV q0 a1 H.size w1 a4 a9 I1) (cwV 2 hts gT_X8_leaked rfl rfl rfl (by decide +kernel) ⟨Nat.le_of_ble_eq_true rfl, Nat.le_of_ble_eq_true rfl⟩) (f_pV (ci := 8) hE hS hA hK hP hD hX rfl (IX_recv I1)) rfl rfl hl.1 rfl (lv_room (Nat.le_of_ble_eq_true rfl)) dL_law_1006 ⟨by show _ + 0 ≤ 600000; omega, by show _ + 0 ≤ 7302250; omega⟩) hP hD hS hA (fun r11 w1 H locs hp hP hD hS => ?_)
  obtain ⟨I1, h12⟩ := hp
  refine lv_pop2_2 hx hb dL_law_1009 rfl ?_
  refine lv_aload_n hx hb dL_law_1010 rfl (lv_at hl 1 rfl) ?_
  refine lv_aload_n hx hb dL_law_1011 rfl (lv_at hl 3 rfl) ?_
  refine lv_iload_n hx hb dL_law_1012 rfl (lv_at hl 0 rfl) ?_
  refine lv_iconst (v := 1) hx hb dL_law_1013 (by decide) ?_
  refine lv_iadd hx hb dL_law_1014 ?_
  refine lv_topi (fun r13 h14 => ?_)
  have f15 : r13.toInt = x3.toInt + 1 := z_iadd h14 rfl (show Int32.toInt 1 = 1 from by decide) (by omega) (by omega)
  refine va_sld hx hb hXs hbl hbA hS (z_in rfl (by omega) (by omega)) dL_law_1015 ?_
  refine lv_topi (fun a16 h17 => ?_)
  refine lv_aload_n hx hb dL_law_1016 rfl (lv_at hl 3 rfl) ?_
  refine lv_iload_n hx hb dL_law_1017 rfl (lv_at hl 0 rfl) ?_
  refine lv_iconst (v := 2) hx hb dL_law_1018 (by decide) ?_
  refine lv_iadd hx hb dL_law_1019 ?_
  refine lv_topi (fun r18 h19 => ?_)
  have f20 : r18.toInt = x3.toInt + 2 := z_iadd h19 rfl (show Int32.toInt 2 = 2 from by decide) (by omega) (by omega)
  refine va_sld hx hb hXs hbl hbA hS (z_in rfl (by omega) (by omega)) dL_law_1020 ?_
  refine lv_topi (fun a21 h22 => ?_)
  have hP : va_P (dC, dI) vwCl (w2 ++ w1) H := f_Pm List.perm_append_comm hP
  have hD : va_D (fun q : Nat => s.heap.size ≤ q) (w2 ++ w1) := f_Dm List.perm_append_comm hD
  refine f_finl (va_runV (As := [.int a16, .int a21]) (rest := []) ⟨hx, hb, hml, hown, hts⟩ (q_X9_leaked l dC dI cB cI cJ cZ cP cQ adK adV q0 a2 H.size w2 a16 a21 I2) (cwV 2 hts gT_X9_leaked rfl rfl rfl (by decide +kernel) ⟨Nat.le_of_ble_eq_true rfl, Nat.le_of_ble_eq_true rfl⟩) (f_pV (ci := 9) hE hS hA hK hP hD hX rfl (IM_recv I2)) rfl rfl hl.1 rfl (lv_room (Nat.le_of_ble_eq_true rfl)) dL_law_1021 ⟨by show _ + 0 ≤ 600000; omega, by show _ + 0 ≤ 7302250; omega⟩) hP hD hS hA (fun r23 w2 H locs hp hP hD hS => ?_)
  obtain ⟨I2, h24⟩ := hp
  have hP : va_P (dC, dI) vwCl (w1 ++ w2) H := f_Pm List.perm_append_comm hP
  have hD : va_D (fun q : Nat => s.heap.size ≤ q) (w1 ++ w2) := f_Dm List.perm_append_comm hD
  refine lv_pop2_2 hx hb dL_law_1024 rfl ?_
  refine lv_goto (tgt := 1615) hx hb dL_law_1025 (by decide) ?_
  refine W.widen (k := cells + 18) (n := slots + 1522) (by omega) (by omega) ?_
  exact kk w1 w2 H locs ls I1 I2 hP hD hS (lv_sub hl [0, 1, 2, 3] rfl)
set_option maxHeartbeats 8000000 in
set_option maxRecDepth 100000 in
theorem law_case26 {p : Program} {e : Env} {s : State} {m : MethodId} {below : List Frame} {meth : Method} {c : Code} {b L : Nat} {xs : Nat → Int32} (l : Launch) (dC : Nat → ClassId) (dI : Nat → Nat → Nat) (cB cI cJ cZ cP cQ : ClassId) (adK adV : Nat → Nat) (q0 : Option Nat) (a1 a2 : Nat) (x3 : Int32) (C0 : lw_At p s m meth c b L xs) (hL : L ≤ 3072) (hK : va_K (dC, dI) vwCl (zT cB cI cJ cZ cP cQ) s) (hX : zX zNW zAO s) (hE : zE adK adV q0 (fun q : Nat => s.heap.size ≤ q) s s.heap) (i cells slots : Nat) (hi : x3.toInt = i) (hiL : i + 6 ≤ L) (hc : cells + 18 ≤ 600000) (hs : slots + 1522 ≤ 7302250) (w1 w2 : va_W) (I1 : IX cB cI cJ cZ cP cQ a1 w1) (I2 : IM cB cI cJ cZ cP cQ a2 w2) (H : Heap) (locs : List Loc) (hP : va_P (dC, dI) vwCl (w1 ++ w2) H) (hD : va_D (fun q : Nat => s.heap.size ≤ q) (w1 ++ w2)) (hS : va_S (fun q : Nat => s.heap.size ≤ q) s.heap H locs) (ls : Array Slot) (hl : lv_has ls 4 [(3, .int x3), (2, .ref a2), (1, .ref a1), (0, .ref b)]) (kk : ∀ (w1 w2 : va_W) (H : Heap) (locs : List Loc) (ls : Array Slot), IX cB cI cJ cZ cP cQ a1 w1 → IM cB cI cJ cZ cP cQ a2 w2 → va_P (dC, dI) vwCl (w1 ++ w2) H → va_D (fun q : Nat => s.heap.size ≤ q) (w1 ++ w2) → va_S (fun q : Nat => s.heap.size ≤ q) s.heap H locs → lv_has ls 4 [(3, .int x3), (2, .ref a2), (1, .ref a1), (0, .ref b)] → W p l e room_1 s m #[Value.ref b] below meth c H locs (cells + 18) (slots + 1522) (lw_Z below #[Value.ref b] s) (F0 m 1615 ls [])) : W p l e room_1 s m #[Value.ref b] below meth c H locs cells slots (lw_Z below #[Value.ref b] s) (F0 m 1028 ls []) := by
  obtain ⟨hx, hb, hr, hml, hown, hts, hXs, hbl, hlocks, hgv⟩ := id C0
  have hown : s.vm.findClass RL = some m.cls := hown
  have hA : ∀ q : Nat, s.heap.size ≤ q → (fun q : Nat => s.heap.size ≤ q) q := fun _ h => h
  have hbA : ¬ (fun q : Nat => s.heap.size ≤ q) b := Nat.not_le.mpr hbl
  refine lv_aload_n hx hb dL_law_1028 rfl (lv_at hl 2 rfl) ?_
  refine lv_aload_n hx hb dL_law_1029 rfl (lv_at hl 3 rfl) ?_
  refine lv_iload_n hx hb dL_law_1030 rfl (lv_at hl 0 rfl) ?_
  refine lv_iconst (v := 1) hx hb dL_law_1031 (by decide) ?_
  refine lv_iadd hx hb dL_law_1032 ?_
  refine lv_topi (fun r1 h2 => ?_)
  have f3 : r1.toInt = x3.toInt + 1 := z_iadd h2 rfl (show Int32.toInt 1 = 1 from by decide) (by omega) (by omega)
  refine va_sld hx hb hXs hbl hbA hS (z_in rfl (by omega) (by omega)) dL_law_1033 ?_
  refine lv_topi (fun a4 h5 => ?_)
  refine f_finl (va_runV (As := [.int a4]) (rest := []) ⟨hx, hb, hml, hown, hts⟩ (q_X8_homes l dC dI cB cI cJ cZ cP cQ adK adV q0 a1 H.size w1 a4 I1) (cwV 1 hts gT_X8_homes rfl rfl rfl (by decide +kernel) ⟨Nat.le_of_ble_eq_true rfl, Nat.le_of_ble_eq_true rfl⟩) (f_pV (ci := 8) hE hS hA hK hP hD hX rfl (IX_recv I1)) rfl rfl hl.1 rfl (lv_room (Nat.le_of_ble_eq_true rfl)) dL_law_1034 ⟨by show _ + 0 ≤ 600000; omega, by show _ + 0 ≤ 7302250; omega⟩) hP hD hS hA (fun r6 w1 H locs hp hP hD hS => ?_)
  obtain ⟨I1, h7⟩ := hp
  refine lv_pop2_2 hx hb dL_law_1037 rfl ?_
  refine lv_aload_n hx hb dL_law_1038 rfl (lv_at hl 1 rfl) ?_
  refine lv_aload_n hx hb dL_law_1039 rfl (lv_at hl 3 rfl) ?_
  refine lv_iload_n hx hb dL_law_1040 rfl (lv_at hl 0 rfl) ?_
  refine lv_iconst (v := 1) hx hb dL_law_1041 (by decide) ?_
  refine lv_iadd hx hb dL_law_1042 ?_
  refine lv_topi (fun r8 h9 => ?_)
  have f10 : r8.toInt = x3.toInt + 1 := z_iadd h9 rfl (show Int32.toInt 1 = 1 from by decide) (by omega) (by omega)
  refine va_sld hx hb hXs hbl hbA hS (z_in rfl (by omega) (by omega)) dL_law_1043 ?_
  refine lv_topi (fun a11 h12 => ?_)
  have hP : va_P (dC, dI) vwCl (w2 ++ w1) H := f_Pm List.perm_append_comm hP
  have hD : va_D (fun q : Nat => s.heap.size ≤ q) (w2 ++ w1) := f_Dm List.perm_append_comm hD
  refine f_finl (va_runV (As := [.int a11]) (rest := []) ⟨hx, hb, hml, hown, hts⟩ (q_X9_homes l dC dI cB cI cJ cZ cP cQ adK adV q0 a2 H.size w2 a11 I2) (cwV 1 hts gT_X9_homes rfl rfl rfl (by decide +kernel) ⟨Nat.le_of_ble_eq_true rfl, Nat.le_of_ble_eq_true rfl⟩) (f_pV (ci := 9) hE hS hA hK hP hD hX rfl (IM_recv I2)) rfl rfl hl.1 rfl (lv_room (Nat.le_of_ble_eq_true rfl)) dL_law_1044 ⟨by show _ + 0 ≤ 600000; omega, by show _ + 0 ≤ 7302250; omega⟩) hP hD hS hA (fun r13 w2 H locs hp hP hD hS => ?_)
  obtain ⟨I2, h14⟩ := hp
  have hP : va_P (dC, dI) vwCl (w1 ++ w2) H := f_Pm List.perm_append_comm hP
  have hD : va_D (fun q : Nat => s.heap.size ≤ q) (w1 ++ w2) := f_Dm List.perm_append_comm hD
  refine lv_pop2_2 hx hb dL_law_1047 rfl ?_
  refine lv_goto (tgt := 1615) hx hb dL_law_1048 (by decide) ?_
  refine W.widen (k := cells + 18) (n := slots + 1522) (by omega) (by omega) ?_
  exact kk w1 w2 H locs ls I1 I2 hP hD hS (lv_sub hl [0, 1, 2, 3] rfl)
set_option maxHeartbeats 8000000 in
set_option maxRecDepth 100000 in
theorem law_case27 {p : Program} {e : Env} {s : State} {m : MethodId} {below : List Frame} {meth : Method} {c : Code} {b L : Nat} {xs : Nat → Int32} (l : Launch) (dC : Nat → ClassId) (dI : Nat → Nat → Nat) (cB cI cJ cZ cP cQ : ClassId) (adK adV : Nat → Nat) (q0 : Option Nat) (a1 a2 : Nat) (x3 : Int32) (C0 : lw_At p s m meth c b L xs) (hL : L ≤ 3072) (hK : va_K (dC, dI) vwCl (zT cB cI cJ cZ cP cQ) s) (hX : zX zNW zAO s) (hE : zE adK adV q0 (fun q : Nat => s.heap.size ≤ q) s s.heap) (i cells slots : Nat) (hi : x3.toInt = i) (hiL : i + 6 ≤ L) (hc : cells + 18 ≤ 600000) (hs : slots + 1522 ≤ 7302250) (w1 w2 : va_W) (I1 : IX cB cI cJ cZ cP cQ a1 w1) (I2 : IM cB cI cJ cZ cP cQ a2 w2) (H : Heap) (locs : List Loc) (hP : va_P (dC, dI) vwCl (w1 ++ w2) H) (hD : va_D (fun q : Nat => s.heap.size ≤ q) (w1 ++ w2)) (hS : va_S (fun q : Nat => s.heap.size ≤ q) s.heap H locs) (ls : Array Slot) (hl : lv_has ls 4 [(3, .int x3), (2, .ref a2), (1, .ref a1), (0, .ref b)]) (kk : ∀ (w1 w2 : va_W) (H : Heap) (locs : List Loc) (ls : Array Slot), IX cB cI cJ cZ cP cQ a1 w1 → IM cB cI cJ cZ cP cQ a2 w2 → va_P (dC, dI) vwCl (w1 ++ w2) H → va_D (fun q : Nat => s.heap.size ≤ q) (w1 ++ w2) → va_S (fun q : Nat => s.heap.size ≤ q) s.heap H locs → lv_has ls 4 [(3, .int x3), (2, .ref a2), (1, .ref a1), (0, .ref b)] → W p l e room_1 s m #[Value.ref b] below meth c H locs (cells + 18) (slots + 1522) (lw_Z below #[Value.ref b] s) (F0 m 1615 ls [])) : W p l e room_1 s m #[Value.ref b] below meth c H locs cells slots (lw_Z below #[Value.ref b] s) (F0 m 1051 ls []) := by
  obtain ⟨hx, hb, hr, hml, hown, hts, hXs, hbl, hlocks, hgv⟩ := id C0
  have hown : s.vm.findClass RL = some m.cls := hown
  have hA : ∀ q : Nat, s.heap.size ≤ q → (fun q : Nat => s.heap.size ≤ q) q := fun _ h => h
  have hbA : ¬ (fun q : Nat => s.heap.size ≤ q) b := Nat.not_le.mpr hbl
  refine lv_aload_n hx hb dL_law_1051 rfl (lv_at hl 2 rfl) ?_
  refine lv_aload_n hx hb dL_law_1052 rfl (lv_at hl 3 rfl) ?_
  refine lv_iload_n hx hb dL_law_1053 rfl (lv_at hl 0 rfl) ?_
  refine lv_iconst (v := 1) hx hb dL_law_1054 (by decide) ?_
  refine lv_iadd hx hb dL_law_1055 ?_
  refine lv_topi (fun r1 h2 => ?_)
  have f3 : r1.toInt = x3.toInt + 1 := z_iadd h2 rfl (show Int32.toInt 1 = 1 from by decide) (by omega) (by omega)
  refine va_sld hx hb hXs hbl hbA hS (z_in rfl (by omega) (by omega)) dL_law_1056 ?_
  refine lv_topi (fun a4 h5 => ?_)
  refine f_fini (va_runV (As := [.int a4]) (rest := []) ⟨hx, hb, hml, hown, hts⟩ (q_X8_whom l dC dI cB cI cJ cZ cP cQ adK adV q0 a1 H.size w1 a4 I1) (cwV 1 hts gT_X8_whom rfl rfl rfl (by decide +kernel) ⟨Nat.le_of_ble_eq_true rfl, Nat.le_of_ble_eq_true rfl⟩) (f_pV (ci := 8) hE hS hA hK hP hD hX rfl (IX_recv I1)) rfl rfl hl.1 rfl (lv_room (Nat.le_of_ble_eq_true rfl)) dL_law_1057 ⟨by show _ + 0 ≤ 600000; omega, by show _ + 0 ≤ 7302250; omega⟩) hP hD hS hA (fun r6 w1 H locs hp hP hD hS => ?_)
  obtain ⟨I1, h7⟩ := hp
  refine lv_pop hx hb dL_law_1060 rfl ?_
  refine lv_aload_n hx hb dL_law_1061 rfl (lv_at hl 1 rfl) ?_
  refine lv_aload_n hx hb dL_law_1062 rfl (lv_at hl 3 rfl) ?_
  refine lv_iload_n hx hb dL_law_1063 rfl (lv_at hl 0 rfl) ?_
  refine lv_iconst (v := 1) hx hb dL_law_1064 (by decide) ?_
  refine lv_iadd hx hb dL_law_1065 ?_
  refine lv_topi (fun r8 h9 => ?_)
  have f10 : r8.toInt = x3.toInt + 1 := z_iadd h9 rfl (show Int32.toInt 1 = 1 from by decide) (by omega) (by omega)
  refine va_sld hx hb hXs hbl hbA hS (z_in rfl (by omega) (by omega)) dL_law_1066 ?_
  refine lv_topi (fun a11 h12 => ?_)
  have hP : va_P (dC, dI) vwCl (w2 ++ w1) H := f_Pm List.perm_append_comm hP
  have hD : va_D (fun q : Nat => s.heap.size ≤ q) (w2 ++ w1) := f_Dm List.perm_append_comm hD
  refine f_fini (va_runV (As := [.int a11]) (rest := []) ⟨hx, hb, hml, hown, hts⟩ (q_X9_whom l dC dI cB cI cJ cZ cP cQ adK adV q0 a2 H.size w2 a11 I2) (cwV 1 hts gT_X9_whom rfl rfl rfl (by decide +kernel) ⟨Nat.le_of_ble_eq_true rfl, Nat.le_of_ble_eq_true rfl⟩) (f_pV (ci := 9) hE hS hA hK hP hD hX rfl (IM_recv I2)) rfl rfl hl.1 rfl (lv_room (Nat.le_of_ble_eq_true rfl)) dL_law_1067 ⟨by show _ + 0 ≤ 600000; omega, by show _ + 0 ≤ 7302250; omega⟩) hP hD hS hA (fun r13 w2 H locs hp hP hD hS => ?_)
  obtain ⟨I2, h14⟩ := hp
  have hP : va_P (dC, dI) vwCl (w1 ++ w2) H := f_Pm List.perm_append_comm hP
  have hD : va_D (fun q : Nat => s.heap.size ≤ q) (w1 ++ w2) := f_Dm List.perm_append_comm hD
  refine lv_pop hx hb dL_law_1070 rfl ?_
  refine lv_goto (tgt := 1615) hx hb dL_law_1071 (by decide) ?_
  refine W.widen (k := cells + 18) (n := slots + 1522) (by omega) (by omega) ?_
  exact kk w1 w2 H locs ls I1 I2 hP hD hS (lv_sub hl [0, 1, 2, 3] rfl)
set_option maxHeartbeats 8000000 in
set_option maxRecDepth 100000 in
theorem law_case28 {p : Program} {e : Env} {s : State} {m : MethodId} {below : List Frame} {meth : Method} {c : Code} {b L : Nat} {xs : Nat → Int32} (l : Launch) (dC : Nat → ClassId) (dI : Nat → Nat → Nat) (cB cI cJ cZ cP cQ : ClassId) (adK adV : Nat → Nat) (q0 : Option Nat) (a1 a2 : Nat) (x3 : Int32) (C0 : lw_At p s m meth c b L xs) (hL : L ≤ 3072) (hK : va_K (dC, dI) vwCl (zT cB cI cJ cZ cP cQ) s) (hX : zX zNW zAO s) (hE : zE adK adV q0 (fun q : Nat => s.heap.size ≤ q) s s.heap) (i cells slots : Nat) (hi : x3.toInt = i) (hiL : i + 6 ≤ L) (hc : cells + 18 ≤ 600000) (hs : slots + 1522 ≤ 7302250) (w1 w2 : va_W) (I1 : IX cB cI cJ cZ cP cQ a1 w1) (I2 : IM cB cI cJ cZ cP cQ a2 w2) (H : Heap) (locs : List Loc) (hP : va_P (dC, dI) vwCl (w1 ++ w2) H) (hD : va_D (fun q : Nat => s.heap.size ≤ q) (w1 ++ w2)) (hS : va_S (fun q : Nat => s.heap.size ≤ q) s.heap H locs) (ls : Array Slot) (hl : lv_has ls 4 [(3, .int x3), (2, .ref a2), (1, .ref a1), (0, .ref b)]) (kk : ∀ (w1 w2 : va_W) (H : Heap) (locs : List Loc) (ls : Array Slot), IX cB cI cJ cZ cP cQ a1 w1 → IM cB cI cJ cZ cP cQ a2 w2 → va_P (dC, dI) vwCl (w1 ++ w2) H → va_D (fun q : Nat => s.heap.size ≤ q) (w1 ++ w2) → va_S (fun q : Nat => s.heap.size ≤ q) s.heap H locs → lv_has ls 4 [(3, .int x3), (2, .ref a2), (1, .ref a1), (0, .ref b)] → W p l e room_1 s m #[Value.ref b] below meth c H locs (cells + 18) (slots + 1522) (lw_Z below #[Value.ref b] s) (F0 m 1615 ls [])) : W p l e room_1 s m #[Value.ref b] below meth c H locs cells slots (lw_Z below #[Value.ref b] s) (F0 m 1074 ls []) := by
  obtain ⟨hx, hb, hr, hml, hown, hts, hXs, hbl, hlocks, hgv⟩ := id C0
  have hown : s.vm.findClass RL = some m.cls := hown
  have hA : ∀ q : Nat, s.heap.size ≤ q → (fun q : Nat => s.heap.size ≤ q) q := fun _ h => h
  have hbA : ¬ (fun q : Nat => s.heap.size ≤ q) b := Nat.not_le.mpr hbl
  refine lv_aload_n hx hb dL_law_1074 rfl (lv_at hl 2 rfl) ?_
  refine lv_aload_n hx hb dL_law_1075 rfl (lv_at hl 3 rfl) ?_
  refine lv_iload_n hx hb dL_law_1076 rfl (lv_at hl 0 rfl) ?_
  refine lv_iconst (v := 1) hx hb dL_law_1077 (by decide) ?_
  refine lv_iadd hx hb dL_law_1078 ?_
  refine lv_topi (fun r1 h2 => ?_)
  have f3 : r1.toInt = x3.toInt + 1 := z_iadd h2 rfl (show Int32.toInt 1 = 1 from by decide) (by omega) (by omega)
  refine va_sld hx hb hXs hbl hbA hS (z_in rfl (by omega) (by omega)) dL_law_1079 ?_
  refine lv_topi (fun a4 h5 => ?_)
  refine lv_if_eq (tgt := 1087) hx hb dL_law_1080 (by decide) (fun c_6 => ?_) (fun c_6 => ?_)
  · have f7 : a4.toInt = 0 := z_eq rfl (show Int32.toInt 0 = 0 from by decide) c_6
    refine lv_iconst (v := 0) hx hb dL_law_1087 (by decide) ?_
    refine f_finl (va_runV (As := [.int 0]) (rest := []) ⟨hx, hb, hml, hown, hts⟩ (q_X8_truth l dC dI cB cI cJ cZ cP cQ adK adV q0 a1 H.size w1 0 (show 0 ≤ Int32.toInt 0 from by decide) (show Int32.toInt 0 ≤ 1 from by decide) I1) (cwV 1 hts gT_X8_truth rfl rfl rfl (by decide +kernel) ⟨Nat.le_of_ble_eq_true rfl, Nat.le_of_ble_eq_true rfl⟩) (f_pV (ci := 8) hE hS hA hK hP hD hX rfl (IX_recv I1)) rfl rfl hl.1 rfl (lv_room (Nat.le_of_ble_eq_true rfl)) dL_law_1088 ⟨by show _ + 0 ≤ 600000; omega, by show _ + 0 ≤ 7302250; omega⟩) hP hD hS hA (fun r8 w1 H locs hp hP hD hS => ?_)
    obtain ⟨I1, h9⟩ := hp
    refine lv_pop2_2 hx hb dL_law_1091 rfl ?_
    refine lv_aload_n hx hb dL_law_1092 rfl (lv_at hl 1 rfl) ?_
    refine lv_aload_n hx hb dL_law_1093 rfl (lv_at hl 3 rfl) ?_
    refine lv_iload_n hx hb dL_law_1094 rfl (lv_at hl 0 rfl) ?_
    refine lv_iconst (v := 1) hx hb dL_law_1095 (by decide) ?_
    refine lv_iadd hx hb dL_law_1096 ?_
    refine lv_topi (fun r10 h11 => ?_)
    have f12 : r10.toInt = x3.toInt + 1 := z_iadd h11 rfl (show Int32.toInt 1 = 1 from by decide) (by omega) (by omega)
    refine va_sld hx hb hXs hbl hbA hS (z_in rfl (by omega) (by omega)) dL_law_1097 ?_
    refine lv_topi (fun a13 h14 => ?_)
    refine lv_if_eq (tgt := 1105) hx hb dL_law_1098 (by decide) (fun c_15 => ?_) (fun c_15 => ?_)
    · have f16 : a13.toInt = 0 := z_eq rfl (show Int32.toInt 0 = 0 from by decide) c_15
      refine lv_iconst (v := 0) hx hb dL_law_1105 (by decide) ?_
      have hP : va_P (dC, dI) vwCl (w2 ++ w1) H := f_Pm List.perm_append_comm hP
      have hD : va_D (fun q : Nat => s.heap.size ≤ q) (w2 ++ w1) := f_Dm List.perm_append_comm hD
      refine f_finl (va_runV (As := [.int 0]) (rest := []) ⟨hx, hb, hml, hown, hts⟩ (q_X9_truth l dC dI cB cI cJ cZ cP cQ adK adV q0 a2 H.size w2 0 (show 0 ≤ Int32.toInt 0 from by decide) (show Int32.toInt 0 ≤ 1 from by decide) I2) (cwV 1 hts gT_X9_truth rfl rfl rfl (by decide +kernel) ⟨Nat.le_of_ble_eq_true rfl, Nat.le_of_ble_eq_true rfl⟩) (f_pV (ci := 9) hE hS hA hK hP hD hX rfl (IM_recv I2)) rfl rfl hl.1 rfl (lv_room (Nat.le_of_ble_eq_true rfl)) dL_law_1106 ⟨by show _ + 0 ≤ 600000; omega, by show _ + 0 ≤ 7302250; omega⟩) hP hD hS hA (fun r17 w2 H locs hp hP hD hS => ?_)
      obtain ⟨I2, h18⟩ := hp
      have hP : va_P (dC, dI) vwCl (w1 ++ w2) H := f_Pm List.perm_append_comm hP
      have hD : va_D (fun q : Nat => s.heap.size ≤ q) (w1 ++ w2) := f_Dm List.perm_append_comm hD
      refine lv_pop2_2 hx hb dL_law_1109 rfl ?_
      refine lv_goto (tgt := 1615) hx hb dL_law_1110 (by decide) ?_
      refine W.widen (k := cells + 18) (n := slots + 1522) (by omega) (by omega) ?_
      exact kk w1 w2 H locs ls I1 I2 hP hD hS (lv_sub hl [0, 1, 2, 3] rfl)
    · have f16 : ¬ a13.toInt = 0 := z_ne rfl (show Int32.toInt 0 = 0 from by decide) c_15
      refine lv_iconst (v := 1) hx hb dL_law_1101 (by decide) ?_
      refine lv_goto (tgt := 1106) hx hb dL_law_1102 (by decide) ?_
      have hP : va_P (dC, dI) vwCl (w2 ++ w1) H := f_Pm List.perm_append_comm hP
      have hD : va_D (fun q : Nat => s.heap.size ≤ q) (w2 ++ w1) := f_Dm List.perm_append_comm hD
      refine f_finl (va_runV (As := [.int 1]) (rest := []) ⟨hx, hb, hml, hown, hts⟩ (q_X9_truth l dC dI cB cI cJ cZ cP cQ adK adV q0 a2 H.size w2 1 (show 0 ≤ Int32.toInt 1 from by decide) (show Int32.toInt 1 ≤ 1 from by decide) I2) (cwV 1 hts gT_X9_truth rfl rfl rfl (by decide +kernel) ⟨Nat.le_of_ble_eq_true rfl, Nat.le_of_ble_eq_true rfl⟩) (f_pV (ci := 9) hE hS hA hK hP hD hX rfl (IM_recv I2)) rfl rfl hl.1 rfl (lv_room (Nat.le_of_ble_eq_true rfl)) dL_law_1106 ⟨by show _ + 0 ≤ 600000; omega, by show _ + 0 ≤ 7302250; omega⟩) hP hD hS hA (fun r19 w2 H locs hp hP hD hS => ?_)
      obtain ⟨I2, h20⟩ := hp
      have hP : va_P (dC, dI) vwCl (w1 ++ w2) H := f_Pm List.perm_append_comm hP
      have hD : va_D (fun q : Nat => s.heap.size ≤ q) (w1 ++ w2) := f_Dm List.perm_append_comm hD
      refine lv_pop2_2 hx hb dL_law_1109 rfl ?_
      refine lv_goto (tgt := 1615) hx hb dL_law_1110 (by decide) ?_
      refine W.widen (k := cells + 18) (n := slots + 1522) (by omega) (by omega) ?_
      exact kk w1 w2 H locs ls I1 I2 hP hD hS (lv_sub hl [0, 1, 2, 3] rfl)
  · have f7 : ¬ a4.toInt = 0 := z_ne rfl (show Int32.toInt 0 = 0 from by decide) c_6
    refine lv_iconst (v := 1) hx hb dL_law_1083 (by decide) ?_
    refine lv_goto (tgt := 1088) hx hb dL_law_1084 (by decide) ?_
    refine f_finl (va_runV (As := [.int 1]) (rest := []) ⟨hx, hb, hml, hown, hts⟩ (q_X8_truth l dC dI cB cI cJ cZ cP cQ adK adV q0 a1 H.size w1 1 (show 0 ≤ Int32.toInt 1 from by decide) (show Int32.toInt 1 ≤ 1 from by decide) I1) (cwV 1 hts gT_X8_truth rfl rfl rfl (by decide +kernel) ⟨Nat.le_of_ble_eq_true rfl, Nat.le_of_ble_eq_true rfl⟩) (f_pV (ci := 8) hE hS hA hK hP hD hX rfl (IX_recv I1)) rfl rfl hl.1 rfl (lv_room (Nat.le_of_ble_eq_true rfl)) dL_law_1088 ⟨by show _ + 0 ≤ 600000; omega, by show _ + 0 ≤ 7302250; omega⟩) hP hD hS hA (fun r21 w1 H locs hp hP hD hS => ?_)
    obtain ⟨I1, h22⟩ := hp
    refine lv_pop2_2 hx hb dL_law_1091 rfl ?_
    refine lv_aload_n hx hb dL_law_1092 rfl (lv_at hl 1 rfl) ?_
    refine lv_aload_n hx hb dL_law_1093 rfl (lv_at hl 3 rfl) ?_
    refine lv_iload_n hx hb dL_law_1094 rfl (lv_at hl 0 rfl) ?_
    refine lv_iconst (v := 1) hx hb dL_law_1095 (by decide) ?_
    refine lv_iadd hx hb dL_law_1096 ?_
    refine lv_topi (fun r23 h24 => ?_)
    have f25 : r23.toInt = x3.toInt + 1 := z_iadd h24 rfl (show Int32.toInt 1 = 1 from by decide) (by omega) (by omega)
    refine va_sld hx hb hXs hbl hbA hS (z_in rfl (by omega) (by omega)) dL_law_1097 ?_
    refine lv_topi (fun a26 h27 => ?_)
    refine lv_if_eq (tgt := 1105) hx hb dL_law_1098 (by decide) (fun c_28 => ?_) (fun c_28 => ?_)
    · have f29 : a26.toInt = 0 := z_eq rfl (show Int32.toInt 0 = 0 from by decide) c_28
      refine lv_iconst (v := 0) hx hb dL_law_1105 (by decide) ?_
      have hP : va_P (dC, dI) vwCl (w2 ++ w1) H := f_Pm List.perm_append_comm hP
      have hD : va_D (fun q : Nat => s.heap.size ≤ q) (w2 ++ w1) := f_Dm List.perm_append_comm hD
      refine f_finl (va_runV (As := [.int 0]) (rest := []) ⟨hx, hb, hml, hown, hts⟩ (q_X9_truth l dC dI cB cI cJ cZ cP cQ adK adV q0 a2 H.size w2 0 (show 0 ≤ Int32.toInt 0 from by decide) (show Int32.toInt 0 ≤ 1 from by decide) I2) (cwV 1 hts gT_X9_truth rfl rfl rfl (by decide +kernel) ⟨Nat.le_of_ble_eq_true rfl, Nat.le_of_ble_eq_true rfl⟩) (f_pV (ci := 9) hE hS hA hK hP hD hX rfl (IM_recv I2)) rfl rfl hl.1 rfl (lv_room (Nat.le_of_ble_eq_true rfl)) dL_law_1106 ⟨by show _ + 0 ≤ 600000; omega, by show _ + 0 ≤ 7302250; omega⟩) hP hD hS hA (fun r30 w2 H locs hp hP hD hS => ?_)
      obtain ⟨I2, h31⟩ := hp
      have hP : va_P (dC, dI) vwCl (w1 ++ w2) H := f_Pm List.perm_append_comm hP
      have hD : va_D (fun q : Nat => s.heap.size ≤ q) (w1 ++ w2) := f_Dm List.perm_append_comm hD
      refine lv_pop2_2 hx hb dL_law_1109 rfl ?_
      refine lv_goto (tgt := 1615) hx hb dL_law_1110 (by decide) ?_
      refine W.widen (k := cells + 18) (n := slots + 1522) (by omega) (by omega) ?_
      exact kk w1 w2 H locs ls I1 I2 hP hD hS (lv_sub hl [0, 1, 2, 3] rfl)
    · have f29 : ¬ a26.toInt = 0 := z_ne rfl (show Int32.toInt 0 = 0 from by decide) c_28
      refine lv_iconst (v := 1) hx hb dL_law_1101 (by decide) ?_
      refine lv_goto (tgt := 1106) hx hb dL_law_1102 (by decide) ?_
      have hP : va_P (dC, dI) vwCl (w2 ++ w1) H := f_Pm List.perm_append_comm hP
      have hD : va_D (fun q : Nat => s.heap.size ≤ q) (w2 ++ w1) := f_Dm List.perm_append_comm hD
      refine f_finl (va_runV (As := [.int 1]) (rest := []) ⟨hx, hb, hml, hown, hts⟩ (q_X9_truth l dC dI cB cI cJ cZ cP cQ adK adV q0 a2 H.size w2 1 (show 0 ≤ Int32.toInt 1 from by decide) (show Int32.toInt 1 ≤ 1 from by decide) I2) (cwV 1 hts gT_X9_truth rfl rfl rfl (by decide +kernel) ⟨Nat.le_of_ble_eq_true rfl, Nat.le_of_ble_eq_true rfl⟩) (f_pV (ci := 9) hE hS hA hK hP hD hX rfl (IM_recv I2)) rfl rfl hl.1 rfl (lv_room (Nat.le_of_ble_eq_true rfl)) dL_law_1106 ⟨by show _ + 0 ≤ 600000; omega, by show _ + 0 ≤ 7302250; omega⟩) hP hD hS hA (fun r32 w2 H locs hp hP hD hS => ?_)
      obtain ⟨I2, h33⟩ := hp
      have hP : va_P (dC, dI) vwCl (w1 ++ w2) H := f_Pm List.perm_append_comm hP
      have hD : va_D (fun q : Nat => s.heap.size ≤ q) (w1 ++ w2) := f_Dm List.perm_append_comm hD
      refine lv_pop2_2 hx hb dL_law_1109 rfl ?_
      refine lv_goto (tgt := 1615) hx hb dL_law_1110 (by decide) ?_
      refine W.widen (k := cells + 18) (n := slots + 1522) (by omega) (by omega) ?_
      exact kk w1 w2 H locs ls I1 I2 hP hD hS (lv_sub hl [0, 1, 2, 3] rfl)
set_option maxHeartbeats 8000000 in
set_option maxRecDepth 100000 in
theorem law_case29 {p : Program} {e : Env} {s : State} {m : MethodId} {below : List Frame} {meth : Method} {c : Code} {b L : Nat} {xs : Nat → Int32} (l : Launch) (dC : Nat → ClassId) (dI : Nat → Nat → Nat) (cB cI cJ cZ cP cQ : ClassId) (adK adV : Nat → Nat) (q0 : Option Nat) (a1 a2 : Nat) (x3 : Int32) (C0 : lw_At p s m meth c b L xs) (hL : L ≤ 3072) (hK : va_K (dC, dI) vwCl (zT cB cI cJ cZ cP cQ) s) (hX : zX zNW zAO s) (hE : zE adK adV q0 (fun q : Nat => s.heap.size ≤ q) s s.heap) (i cells slots : Nat) (hi : x3.toInt = i) (hiL : i + 6 ≤ L) (hc : cells + 18 ≤ 600000) (hs : slots + 1522 ≤ 7302250) (w1 w2 : va_W) (I1 : IX cB cI cJ cZ cP cQ a1 w1) (I2 : IM cB cI cJ cZ cP cQ a2 w2) (H : Heap) (locs : List Loc) (hP : va_P (dC, dI) vwCl (w1 ++ w2) H) (hD : va_D (fun q : Nat => s.heap.size ≤ q) (w1 ++ w2)) (hS : va_S (fun q : Nat => s.heap.size ≤ q) s.heap H locs) (ls : Array Slot) (hl : lv_has ls 4 [(3, .int x3), (2, .ref a2), (1, .ref a1), (0, .ref b)]) (kk : ∀ (w1 w2 : va_W) (H : Heap) (locs : List Loc) (ls : Array Slot), IX cB cI cJ cZ cP cQ a1 w1 → IM cB cI cJ cZ cP cQ a2 w2 → va_P (dC, dI) vwCl (w1 ++ w2) H → va_D (fun q : Nat => s.heap.size ≤ q) (w1 ++ w2) → va_S (fun q : Nat => s.heap.size ≤ q) s.heap H locs → lv_has ls 4 [(3, .int x3), (2, .ref a2), (1, .ref a1), (0, .ref b)] → W p l e room_1 s m #[Value.ref b] below meth c H locs (cells + 18) (slots + 1522) (lw_Z below #[Value.ref b] s) (F0 m 1615 ls [])) : W p l e room_1 s m #[Value.ref b] below meth c H locs cells slots (lw_Z below #[Value.ref b] s) (F0 m 1113 ls []) := by
  obtain ⟨hx, hb, hr, hml, hown, hts, hXs, hbl, hlocks, hgv⟩ := id C0
  have hown : s.vm.findClass RL = some m.cls := hown
  have hA : ∀ q : Nat, s.heap.size ≤ q → (fun q : Nat => s.heap.size ≤ q) q := fun _ h => h
  have hbA : ¬ (fun q : Nat => s.heap.size ≤ q) b := Nat.not_le.mpr hbl
  refine lv_aload_n hx hb dL_law_1113 rfl (lv_at hl 2 rfl) ?_
  refine lv_aload_n hx hb dL_law_1114 rfl (lv_at hl 3 rfl) ?_
  refine lv_iload_n hx hb dL_law_1115 rfl (lv_at hl 0 rfl) ?_
  refine lv_iconst (v := 1) hx hb dL_law_1116 (by decide) ?_
  refine lv_iadd hx hb dL_law_1117 ?_
  refine lv_topi (fun r1 h2 => ?_)
  have f3 : r1.toInt = x3.toInt + 1 := z_iadd h2 rfl (show Int32.toInt 1 = 1 from by decide) (by omega) (by omega)
  refine va_sld hx hb hXs hbl hbA hS (z_in rfl (by omega) (by omega)) dL_law_1118 ?_
  refine lv_topi (fun a4 h5 => ?_)
  refine lv_aload_n hx hb dL_law_1119 rfl (lv_at hl 3 rfl) ?_
  refine lv_iload_n hx hb dL_law_1120 rfl (lv_at hl 0 rfl) ?_
  refine lv_iconst (v := 2) hx hb dL_law_1121 (by decide) ?_
  refine lv_iadd hx hb dL_law_1122 ?_
  refine lv_topi (fun r6 h7 => ?_)
  have f8 : r6.toInt = x3.toInt + 2 := z_iadd h7 rfl (show Int32.toInt 2 = 2 from by decide) (by omega) (by omega)
  refine va_sld hx hb hXs hbl hbA hS (z_in rfl (by omega) (by omega)) dL_law_1123 ?_
  refine lv_topi (fun a9 h10 => ?_)
  refine f_finl (va_runV (As := [.int a4, .int a9]) (rest := []) ⟨hx, hb, hml, hown, hts⟩ (q_X8_leans l dC dI cB cI cJ cZ cP cQ adK adV q0 a1 H.size w1 a4 a9 I1) (cwV 2 hts gT_X8_leans rfl rfl rfl (by decide +kernel) ⟨Nat.le_of_ble_eq_true rfl, Nat.le_of_ble_eq_true rfl⟩) (f_pV (ci := 8) hE hS hA hK hP hD hX rfl (IX_recv I1)) rfl rfl hl.1 rfl (lv_room (Nat.le_of_ble_eq_true rfl)) dL_law_1124 ⟨by show _ + 0 ≤ 600000; omega, by show _ + 0 ≤ 7302250; omega⟩) hP hD hS hA (fun r11 w1 H locs hp hP hD hS => ?_)
  obtain ⟨I1, h12⟩ := hp
  refine lv_pop2_2 hx hb dL_law_1127 rfl ?_
  refine lv_aload_n hx hb dL_law_1128 rfl (lv_at hl 1 rfl) ?_
  refine lv_aload_n hx hb dL_law_1129 rfl (lv_at hl 3 rfl) ?_
  refine lv_iload_n hx hb dL_law_1130 rfl (lv_at hl 0 rfl) ?_
  refine lv_iconst (v := 1) hx hb dL_law_1131 (by decide) ?_
  refine lv_iadd hx hb dL_law_1132 ?_
  refine lv_topi (fun r13 h14 => ?_)
  have f15 : r13.toInt = x3.toInt + 1 := z_iadd h14 rfl (show Int32.toInt 1 = 1 from by decide) (by omega) (by omega)
  refine va_sld hx hb hXs hbl hbA hS (z_in rfl (by omega) (by omega)) dL_law_1133 ?_
  refine lv_topi (fun a16 h17 => ?_)
  refine lv_aload_n hx hb dL_law_1134 rfl (lv_at hl 3 rfl) ?_
  refine lv_iload_n hx hb dL_law_1135 rfl (lv_at hl 0 rfl) ?_
  refine lv_iconst (v := 2) hx hb dL_law_1136 (by decide) ?_
  refine lv_iadd hx hb dL_law_1137 ?_
  refine lv_topi (fun r18 h19 => ?_)
  have f20 : r18.toInt = x3.toInt + 2 := z_iadd h19 rfl (show Int32.toInt 2 = 2 from by decide) (by omega) (by omega)
  refine va_sld hx hb hXs hbl hbA hS (z_in rfl (by omega) (by omega)) dL_law_1138 ?_
  refine lv_topi (fun a21 h22 => ?_)
  have hP : va_P (dC, dI) vwCl (w2 ++ w1) H := f_Pm List.perm_append_comm hP
  have hD : va_D (fun q : Nat => s.heap.size ≤ q) (w2 ++ w1) := f_Dm List.perm_append_comm hD
  refine f_finl (va_runV (As := [.int a16, .int a21]) (rest := []) ⟨hx, hb, hml, hown, hts⟩ (q_X9_leans l dC dI cB cI cJ cZ cP cQ adK adV q0 a2 H.size w2 a16 a21 I2) (cwV 2 hts gT_X9_leans rfl rfl rfl (by decide +kernel) ⟨Nat.le_of_ble_eq_true rfl, Nat.le_of_ble_eq_true rfl⟩) (f_pV (ci := 9) hE hS hA hK hP hD hX rfl (IM_recv I2)) rfl rfl hl.1 rfl (lv_room (Nat.le_of_ble_eq_true rfl)) dL_law_1139 ⟨by show _ + 0 ≤ 600000; omega, by show _ + 0 ≤ 7302250; omega⟩) hP hD hS hA (fun r23 w2 H locs hp hP hD hS => ?_)
  obtain ⟨I2, h24⟩ := hp
  have hP : va_P (dC, dI) vwCl (w1 ++ w2) H := f_Pm List.perm_append_comm hP
  have hD : va_D (fun q : Nat => s.heap.size ≤ q) (w1 ++ w2) := f_Dm List.perm_append_comm hD
  refine lv_pop2_2 hx hb dL_law_1142 rfl ?_
  refine lv_goto (tgt := 1615) hx hb dL_law_1143 (by decide) ?_
  refine W.widen (k := cells + 18) (n := slots + 1522) (by omega) (by omega) ?_
  exact kk w1 w2 H locs ls I1 I2 hP hD hS (lv_sub hl [0, 1, 2, 3] rfl)
set_option maxHeartbeats 8000000 in
set_option maxRecDepth 100000 in
theorem law_case30 {p : Program} {e : Env} {s : State} {m : MethodId} {below : List Frame} {meth : Method} {c : Code} {b L : Nat} {xs : Nat → Int32} (l : Launch) (dC : Nat → ClassId) (dI : Nat → Nat → Nat) (cB cI cJ cZ cP cQ : ClassId) (adK adV : Nat → Nat) (q0 : Option Nat) (a1 a2 : Nat) (x3 : Int32) (C0 : lw_At p s m meth c b L xs) (hL : L ≤ 3072) (hK : va_K (dC, dI) vwCl (zT cB cI cJ cZ cP cQ) s) (hX : zX zNW zAO s) (hE : zE adK adV q0 (fun q : Nat => s.heap.size ≤ q) s s.heap) (i cells slots : Nat) (hi : x3.toInt = i) (hiL : i + 6 ≤ L) (hc : cells + 18 ≤ 600000) (hs : slots + 1522 ≤ 7302250) (w1 w2 : va_W) (I1 : IX cB cI cJ cZ cP cQ a1 w1) (I2 : IM cB cI cJ cZ cP cQ a2 w2) (H : Heap) (locs : List Loc) (hP : va_P (dC, dI) vwCl (w1 ++ w2) H) (hD : va_D (fun q : Nat => s.heap.size ≤ q) (w1 ++ w2)) (hS : va_S (fun q : Nat => s.heap.size ≤ q) s.heap H locs) (ls : Array Slot) (hl : lv_has ls 4 [(3, .int x3), (2, .ref a2), (1, .ref a1), (0, .ref b)]) (kk : ∀ (w1 w2 : va_W) (H : Heap) (locs : List Loc) (ls : Array Slot), IX cB cI cJ cZ cP cQ a1 w1 → IM cB cI cJ cZ cP cQ a2 w2 → va_P (dC, dI) vwCl (w1 ++ w2) H → va_D (fun q : Nat => s.heap.size ≤ q) (w1 ++ w2) → va_S (fun q : Nat => s.heap.size ≤ q) s.heap H locs → lv_has ls 4 [(3, .int x3), (2, .ref a2), (1, .ref a1), (0, .ref b)] → W p l e room_1 s m #[Value.ref b] below meth c H locs (cells + 18) (slots + 1522) (lw_Z below #[Value.ref b] s) (F0 m 1615 ls [])) : W p l e room_1 s m #[Value.ref b] below meth c H locs cells slots (lw_Z below #[Value.ref b] s) (F0 m 1146 ls []) := by
  obtain ⟨hx, hb, hr, hml, hown, hts, hXs, hbl, hlocks, hgv⟩ := id C0
  have hown : s.vm.findClass RL = some m.cls := hown
  have hA : ∀ q : Nat, s.heap.size ≤ q → (fun q : Nat => s.heap.size ≤ q) q := fun _ h => h
  have hbA : ¬ (fun q : Nat => s.heap.size ≤ q) b := Nat.not_le.mpr hbl
  refine lv_aload_n hx hb dL_law_1146 rfl (lv_at hl 2 rfl) ?_
  refine lv_aload_n hx hb dL_law_1147 rfl (lv_at hl 3 rfl) ?_
  refine lv_iload_n hx hb dL_law_1148 rfl (lv_at hl 0 rfl) ?_
  refine lv_iconst (v := 1) hx hb dL_law_1149 (by decide) ?_
  refine lv_iadd hx hb dL_law_1150 ?_
  refine lv_topi (fun r1 h2 => ?_)
  have f3 : r1.toInt = x3.toInt + 1 := z_iadd h2 rfl (show Int32.toInt 1 = 1 from by decide) (by omega) (by omega)
  refine va_sld hx hb hXs hbl hbA hS (z_in rfl (by omega) (by omega)) dL_law_1151 ?_
  refine lv_topi (fun a4 h5 => ?_)
  refine f_fini (va_runV (As := [.int a4]) (rest := []) ⟨hx, hb, hml, hown, hts⟩ (q_X8_least l dC dI cB cI cJ cZ cP cQ adK adV q0 a1 H.size w1 a4 I1) (cwV 1 hts gT_X8_least rfl rfl rfl (by decide +kernel) ⟨Nat.le_of_ble_eq_true rfl, Nat.le_of_ble_eq_true rfl⟩) (f_pV (ci := 8) hE hS hA hK hP hD hX rfl (IX_recv I1)) rfl rfl hl.1 rfl (lv_room (Nat.le_of_ble_eq_true rfl)) dL_law_1152 ⟨by show _ + 0 ≤ 600000; omega, by show _ + 0 ≤ 7302250; omega⟩) hP hD hS hA (fun r6 w1 H locs hp hP hD hS => ?_)
  obtain ⟨I1, h7⟩ := hp
  refine lv_pop hx hb dL_law_1155 rfl ?_
  refine lv_aload_n hx hb dL_law_1156 rfl (lv_at hl 1 rfl) ?_
  refine lv_aload_n hx hb dL_law_1157 rfl (lv_at hl 3 rfl) ?_
  refine lv_iload_n hx hb dL_law_1158 rfl (lv_at hl 0 rfl) ?_
  refine lv_iconst (v := 1) hx hb dL_law_1159 (by decide) ?_
  refine lv_iadd hx hb dL_law_1160 ?_
  refine lv_topi (fun r8 h9 => ?_)
  have f10 : r8.toInt = x3.toInt + 1 := z_iadd h9 rfl (show Int32.toInt 1 = 1 from by decide) (by omega) (by omega)
  refine va_sld hx hb hXs hbl hbA hS (z_in rfl (by omega) (by omega)) dL_law_1161 ?_
  refine lv_topi (fun a11 h12 => ?_)
  have hP : va_P (dC, dI) vwCl (w2 ++ w1) H := f_Pm List.perm_append_comm hP
  have hD : va_D (fun q : Nat => s.heap.size ≤ q) (w2 ++ w1) := f_Dm List.perm_append_comm hD
  refine f_fini (va_runV (As := [.int a11]) (rest := []) ⟨hx, hb, hml, hown, hts⟩ (q_X9_least l dC dI cB cI cJ cZ cP cQ adK adV q0 a2 H.size w2 a11 I2) (cwV 1 hts gT_X9_least rfl rfl rfl (by decide +kernel) ⟨Nat.le_of_ble_eq_true rfl, Nat.le_of_ble_eq_true rfl⟩) (f_pV (ci := 9) hE hS hA hK hP hD hX rfl (IM_recv I2)) rfl rfl hl.1 rfl (lv_room (Nat.le_of_ble_eq_true rfl)) dL_law_1162 ⟨by show _ + 0 ≤ 600000; omega, by show _ + 0 ≤ 7302250; omega⟩) hP hD hS hA (fun r13 w2 H locs hp hP hD hS => ?_)
  obtain ⟨I2, h14⟩ := hp
  have hP : va_P (dC, dI) vwCl (w1 ++ w2) H := f_Pm List.perm_append_comm hP
  have hD : va_D (fun q : Nat => s.heap.size ≤ q) (w1 ++ w2) := f_Dm List.perm_append_comm hD
  refine lv_pop hx hb dL_law_1165 rfl ?_
  refine lv_goto (tgt := 1615) hx hb dL_law_1166 (by decide) ?_
  refine W.widen (k := cells + 18) (n := slots + 1522) (by omega) (by omega) ?_
  exact kk w1 w2 H locs ls I1 I2 hP hD hS (lv_sub hl [0, 1, 2, 3] rfl)
set_option maxHeartbeats 8000000 in
set_option maxRecDepth 100000 in
theorem law_case31 {p : Program} {e : Env} {s : State} {m : MethodId} {below : List Frame} {meth : Method} {c : Code} {b L : Nat} {xs : Nat → Int32} (l : Launch) (dC : Nat → ClassId) (dI : Nat → Nat → Nat) (cB cI cJ cZ cP cQ : ClassId) (adK adV : Nat → Nat) (q0 : Option Nat) (a1 a2 : Nat) (x3 : Int32) (C0 : lw_At p s m meth c b L xs) (hL : L ≤ 3072) (hK : va_K (dC, dI) vwCl (zT cB cI cJ cZ cP cQ) s) (hX : zX zNW zAO s) (hE : zE adK adV q0 (fun q : Nat => s.heap.size ≤ q) s s.heap) (i cells slots : Nat) (hi : x3.toInt = i) (hiL : i + 6 ≤ L) (hc : cells + 18 ≤ 600000) (hs : slots + 1522 ≤ 7302250) (w1 w2 : va_W) (I1 : IX cB cI cJ cZ cP cQ a1 w1) (I2 : IM cB cI cJ cZ cP cQ a2 w2) (H : Heap) (locs : List Loc) (hP : va_P (dC, dI) vwCl (w1 ++ w2) H) (hD : va_D (fun q : Nat => s.heap.size ≤ q) (w1 ++ w2)) (hS : va_S (fun q : Nat => s.heap.size ≤ q) s.heap H locs) (ls : Array Slot) (hl : lv_has ls 4 [(3, .int x3), (2, .ref a2), (1, .ref a1), (0, .ref b)]) (kk : ∀ (w1 w2 : va_W) (H : Heap) (locs : List Loc) (ls : Array Slot), IX cB cI cJ cZ cP cQ a1 w1 → IM cB cI cJ cZ cP cQ a2 w2 → va_P (dC, dI) vwCl (w1 ++ w2) H → va_D (fun q : Nat => s.heap.size ≤ q) (w1 ++ w2) → va_S (fun q : Nat => s.heap.size ≤ q) s.heap H locs → lv_has ls 4 [(3, .int x3), (2, .ref a2), (1, .ref a1), (0, .ref b)] → W p l e room_1 s m #[Value.ref b] below meth c H locs (cells + 18) (slots + 1522) (lw_Z below #[Value.ref b] s) (F0 m 1615 ls [])) : W p l e room_1 s m #[Value.ref b] below meth c H locs cells slots (lw_Z below #[Value.ref b] s) (F0 m 1169 ls []) := by
  obtain ⟨hx, hb, hr, hml, hown, hts, hXs, hbl, hlocks, hgv⟩ := id C0
  have hown : s.vm.findClass RL = some m.cls := hown
  have hA : ∀ q : Nat, s.heap.size ≤ q → (fun q : Nat => s.heap.size ≤ q) q := fun _ h => h
  have hbA : ¬ (fun q : Nat => s.heap.size ≤ q) b := Nat.not_le.mpr hbl
  refine lv_aload_n hx hb dL_law_1169 rfl (lv_at hl 2 rfl) ?_
  refine lv_aload_n hx hb dL_law_1170 rfl (lv_at hl 3 rfl) ?_
  refine lv_iload_n hx hb dL_law_1171 rfl (lv_at hl 0 rfl) ?_
  refine lv_iconst (v := 1) hx hb dL_law_1172 (by decide) ?_
  refine lv_iadd hx hb dL_law_1173 ?_
  refine lv_topi (fun r1 h2 => ?_)
  have f3 : r1.toInt = x3.toInt + 1 := z_iadd h2 rfl (show Int32.toInt 1 = 1 from by decide) (by omega) (by omega)
  refine va_sld hx hb hXs hbl hbA hS (z_in rfl (by omega) (by omega)) dL_law_1174 ?_
  refine lv_topi (fun a4 h5 => ?_)
  refine lv_aload_n hx hb dL_law_1175 rfl (lv_at hl 3 rfl) ?_
  refine lv_iload_n hx hb dL_law_1176 rfl (lv_at hl 0 rfl) ?_
  refine lv_iconst (v := 2) hx hb dL_law_1177 (by decide) ?_
  refine lv_iadd hx hb dL_law_1178 ?_
  refine lv_topi (fun r6 h7 => ?_)
  have f8 : r6.toInt = x3.toInt + 2 := z_iadd h7 rfl (show Int32.toInt 2 = 2 from by decide) (by omega) (by omega)
  refine va_sld hx hb hXs hbl hbA hS (z_in rfl (by omega) (by omega)) dL_law_1179 ?_
  refine lv_topi (fun a9 h10 => ?_)
  refine f_fini (va_runV (As := [.int a4, .int a9]) (rest := []) ⟨hx, hb, hml, hown, hts⟩ (q_X8_beside l dC dI cB cI cJ cZ cP cQ adK adV q0 a1 H.size w1 a4 a9 I1) (cwV 2 hts gT_X8_beside rfl rfl rfl (by decide +kernel) ⟨Nat.le_of_ble_eq_true rfl, Nat.le_of_ble_eq_true rfl⟩) (f_pV (ci := 8) hE hS hA hK hP hD hX rfl (IX_recv I1)) rfl rfl hl.1 rfl (lv_room (Nat.le_of_ble_eq_true rfl)) dL_law_1180 ⟨by show _ + 0 ≤ 600000; omega, by show _ + 0 ≤ 7302250; omega⟩) hP hD hS hA (fun r11 w1 H locs hp hP hD hS => ?_)
  obtain ⟨I1, h12⟩ := hp
  refine lv_pop hx hb dL_law_1183 rfl ?_
  refine lv_aload_n hx hb dL_law_1184 rfl (lv_at hl 1 rfl) ?_
  refine lv_aload_n hx hb dL_law_1185 rfl (lv_at hl 3 rfl) ?_
  refine lv_iload_n hx hb dL_law_1186 rfl (lv_at hl 0 rfl) ?_
  refine lv_iconst (v := 1) hx hb dL_law_1187 (by decide) ?_
  refine lv_iadd hx hb dL_law_1188 ?_
  refine lv_topi (fun r13 h14 => ?_)
  have f15 : r13.toInt = x3.toInt + 1 := z_iadd h14 rfl (show Int32.toInt 1 = 1 from by decide) (by omega) (by omega)
  refine va_sld hx hb hXs hbl hbA hS (z_in rfl (by omega) (by omega)) dL_law_1189 ?_
  refine lv_topi (fun a16 h17 => ?_)
  refine lv_aload_n hx hb dL_law_1190 rfl (lv_at hl 3 rfl) ?_
  refine lv_iload_n hx hb dL_law_1191 rfl (lv_at hl 0 rfl) ?_
  refine lv_iconst (v := 2) hx hb dL_law_1192 (by decide) ?_
  refine lv_iadd hx hb dL_law_1193 ?_
  refine lv_topi (fun r18 h19 => ?_)
  have f20 : r18.toInt = x3.toInt + 2 := z_iadd h19 rfl (show Int32.toInt 2 = 2 from by decide) (by omega) (by omega)
  refine va_sld hx hb hXs hbl hbA hS (z_in rfl (by omega) (by omega)) dL_law_1194 ?_
  refine lv_topi (fun a21 h22 => ?_)
  have hP : va_P (dC, dI) vwCl (w2 ++ w1) H := f_Pm List.perm_append_comm hP
  have hD : va_D (fun q : Nat => s.heap.size ≤ q) (w2 ++ w1) := f_Dm List.perm_append_comm hD
  refine f_fini (va_runV (As := [.int a16, .int a21]) (rest := []) ⟨hx, hb, hml, hown, hts⟩ (q_X9_beside l dC dI cB cI cJ cZ cP cQ adK adV q0 a2 H.size w2 a16 a21 I2) (cwV 2 hts gT_X9_beside rfl rfl rfl (by decide +kernel) ⟨Nat.le_of_ble_eq_true rfl, Nat.le_of_ble_eq_true rfl⟩) (f_pV (ci := 9) hE hS hA hK hP hD hX rfl (IM_recv I2)) rfl rfl hl.1 rfl (lv_room (Nat.le_of_ble_eq_true rfl)) dL_law_1195 ⟨by show _ + 0 ≤ 600000; omega, by show _ + 0 ≤ 7302250; omega⟩) hP hD hS hA (fun r23 w2 H locs hp hP hD hS => ?_)
  obtain ⟨I2, h24⟩ := hp
  have hP : va_P (dC, dI) vwCl (w1 ++ w2) H := f_Pm List.perm_append_comm hP
  have hD : va_D (fun q : Nat => s.heap.size ≤ q) (w1 ++ w2) := f_Dm List.perm_append_comm hD
  refine lv_pop hx hb dL_law_1198 rfl ?_
  refine lv_goto (tgt := 1615) hx hb dL_law_1199 (by decide) ?_
  refine W.widen (k := cells + 18) (n := slots + 1522) (by omega) (by omega) ?_
  exact kk w1 w2 H locs ls I1 I2 hP hD hS (lv_sub hl [0, 1, 2, 3] rfl)
set_option maxHeartbeats 8000000 in
set_option maxRecDepth 100000 in
theorem law_case32 {p : Program} {e : Env} {s : State} {m : MethodId} {below : List Frame} {meth : Method} {c : Code} {b L : Nat} {xs : Nat → Int32} (l : Launch) (dC : Nat → ClassId) (dI : Nat → Nat → Nat) (cB cI cJ cZ cP cQ : ClassId) (adK adV : Nat → Nat) (q0 : Option Nat) (a1 a2 : Nat) (x3 : Int32) (C0 : lw_At p s m meth c b L xs) (hL : L ≤ 3072) (hK : va_K (dC, dI) vwCl (zT cB cI cJ cZ cP cQ) s) (hX : zX zNW zAO s) (hE : zE adK adV q0 (fun q : Nat => s.heap.size ≤ q) s s.heap) (i cells slots : Nat) (hi : x3.toInt = i) (hiL : i + 6 ≤ L) (hc : cells + 18 ≤ 600000) (hs : slots + 1522 ≤ 7302250) (w1 w2 : va_W) (I1 : IX cB cI cJ cZ cP cQ a1 w1) (I2 : IM cB cI cJ cZ cP cQ a2 w2) (H : Heap) (locs : List Loc) (hP : va_P (dC, dI) vwCl (w1 ++ w2) H) (hD : va_D (fun q : Nat => s.heap.size ≤ q) (w1 ++ w2)) (hS : va_S (fun q : Nat => s.heap.size ≤ q) s.heap H locs) (ls : Array Slot) (hl : lv_has ls 4 [(3, .int x3), (2, .ref a2), (1, .ref a1), (0, .ref b)]) (kk : ∀ (w1 w2 : va_W) (H : Heap) (locs : List Loc) (ls : Array Slot), IX cB cI cJ cZ cP cQ a1 w1 → IM cB cI cJ cZ cP cQ a2 w2 → va_P (dC, dI) vwCl (w1 ++ w2) H → va_D (fun q : Nat => s.heap.size ≤ q) (w1 ++ w2) → va_S (fun q : Nat => s.heap.size ≤ q) s.heap H locs → lv_has ls 4 [(3, .int x3), (2, .ref a2), (1, .ref a1), (0, .ref b)] → W p l e room_1 s m #[Value.ref b] below meth c H locs (cells + 18) (slots + 1522) (lw_Z below #[Value.ref b] s) (F0 m 1615 ls [])) : W p l e room_1 s m #[Value.ref b] below meth c H locs cells slots (lw_Z below #[Value.ref b] s) (F0 m 1202 ls []) := by
  obtain ⟨hx, hb, hr, hml, hown, hts, hXs, hbl, hlocks, hgv⟩ := id C0
  have hown : s.vm.findClass RL = some m.cls := hown
  have hA : ∀ q : Nat, s.heap.size ≤ q → (fun q : Nat => s.heap.size ≤ q) q := fun _ h => h
  have hbA : ¬ (fun q : Nat => s.heap.size ≤ q) b := Nat.not_le.mpr hbl
  refine lv_aload_n hx hb dL_law_1202 rfl (lv_at hl 2 rfl) ?_
  refine lv_aload_n hx hb dL_law_1203 rfl (lv_at hl 3 rfl) ?_
  refine lv_iload_n hx hb dL_law_1204 rfl (lv_at hl 0 rfl) ?_
  refine lv_iconst (v := 1) hx hb dL_law_1205 (by decide) ?_
  refine lv_iadd hx hb dL_law_1206 ?_
  refine lv_topi (fun r1 h2 => ?_)
  have f3 : r1.toInt = x3.toInt + 1 := z_iadd h2 rfl (show Int32.toInt 1 = 1 from by decide) (by omega) (by omega)
  refine va_sld hx hb hXs hbl hbA hS (z_in rfl (by omega) (by omega)) dL_law_1207 ?_
  refine lv_topi (fun a4 h5 => ?_)
  refine lv_aload_n hx hb dL_law_1208 rfl (lv_at hl 3 rfl) ?_
  refine lv_iload_n hx hb dL_law_1209 rfl (lv_at hl 0 rfl) ?_
  refine lv_iconst (v := 2) hx hb dL_law_1210 (by decide) ?_
  refine lv_iadd hx hb dL_law_1211 ?_
  refine lv_topi (fun r6 h7 => ?_)
  have f8 : r6.toInt = x3.toInt + 2 := z_iadd h7 rfl (show Int32.toInt 2 = 2 from by decide) (by omega) (by omega)
  refine va_sld hx hb hXs hbl hbA hS (z_in rfl (by omega) (by omega)) dL_law_1212 ?_
  refine lv_topi (fun a9 h10 => ?_)
  refine f_fini (va_runV (As := [.int a4, .int a9]) (rest := []) ⟨hx, hb, hml, hown, hts⟩ (q_X8_needs l dC dI cB cI cJ cZ cP cQ adK adV q0 a1 H.size w1 a4 a9 I1) (cwV 2 hts gT_X8_needs rfl rfl rfl (by decide +kernel) ⟨Nat.le_of_ble_eq_true rfl, Nat.le_of_ble_eq_true rfl⟩) (f_pV (ci := 8) hE hS hA hK hP hD hX rfl (IX_recv I1)) rfl rfl hl.1 rfl (lv_room (Nat.le_of_ble_eq_true rfl)) dL_law_1213 ⟨by show _ + 0 ≤ 600000; omega, by show _ + 0 ≤ 7302250; omega⟩) hP hD hS hA (fun r11 w1 H locs hp hP hD hS => ?_)
  obtain ⟨I1, h12⟩ := hp
  refine lv_pop hx hb dL_law_1216 rfl ?_
  refine lv_aload_n hx hb dL_law_1217 rfl (lv_at hl 1 rfl) ?_
  refine lv_aload_n hx hb dL_law_1218 rfl (lv_at hl 3 rfl) ?_
  refine lv_iload_n hx hb dL_law_1219 rfl (lv_at hl 0 rfl) ?_
  refine lv_iconst (v := 1) hx hb dL_law_1220 (by decide) ?_
  refine lv_iadd hx hb dL_law_1221 ?_
  refine lv_topi (fun r13 h14 => ?_)
  have f15 : r13.toInt = x3.toInt + 1 := z_iadd h14 rfl (show Int32.toInt 1 = 1 from by decide) (by omega) (by omega)
  refine va_sld hx hb hXs hbl hbA hS (z_in rfl (by omega) (by omega)) dL_law_1222 ?_
  refine lv_topi (fun a16 h17 => ?_)
  refine lv_aload_n hx hb dL_law_1223 rfl (lv_at hl 3 rfl) ?_
  refine lv_iload_n hx hb dL_law_1224 rfl (lv_at hl 0 rfl) ?_
  refine lv_iconst (v := 2) hx hb dL_law_1225 (by decide) ?_
  refine lv_iadd hx hb dL_law_1226 ?_
  refine lv_topi (fun r18 h19 => ?_)
  have f20 : r18.toInt = x3.toInt + 2 := z_iadd h19 rfl (show Int32.toInt 2 = 2 from by decide) (by omega) (by omega)
  refine va_sld hx hb hXs hbl hbA hS (z_in rfl (by omega) (by omega)) dL_law_1227 ?_
  refine lv_topi (fun a21 h22 => ?_)
  have hP : va_P (dC, dI) vwCl (w2 ++ w1) H := f_Pm List.perm_append_comm hP
  have hD : va_D (fun q : Nat => s.heap.size ≤ q) (w2 ++ w1) := f_Dm List.perm_append_comm hD
  refine f_fini (va_runV (As := [.int a16, .int a21]) (rest := []) ⟨hx, hb, hml, hown, hts⟩ (q_X9_needs l dC dI cB cI cJ cZ cP cQ adK adV q0 a2 H.size w2 a16 a21 I2) (cwV 2 hts gT_X9_needs rfl rfl rfl (by decide +kernel) ⟨Nat.le_of_ble_eq_true rfl, Nat.le_of_ble_eq_true rfl⟩) (f_pV (ci := 9) hE hS hA hK hP hD hX rfl (IM_recv I2)) rfl rfl hl.1 rfl (lv_room (Nat.le_of_ble_eq_true rfl)) dL_law_1228 ⟨by show _ + 0 ≤ 600000; omega, by show _ + 0 ≤ 7302250; omega⟩) hP hD hS hA (fun r23 w2 H locs hp hP hD hS => ?_)
  obtain ⟨I2, h24⟩ := hp
  have hP : va_P (dC, dI) vwCl (w1 ++ w2) H := f_Pm List.perm_append_comm hP
  have hD : va_D (fun q : Nat => s.heap.size ≤ q) (w1 ++ w2) := f_Dm List.perm_append_comm hD
  refine lv_pop hx hb dL_law_1231 rfl ?_
  refine lv_goto (tgt := 1615) hx hb dL_law_1232 (by decide) ?_
  refine W.widen (k := cells + 18) (n := slots + 1522) (by omega) (by omega) ?_
  exact kk w1 w2 H locs ls I1 I2 hP hD hS (lv_sub hl [0, 1, 2, 3] rfl)
set_option maxHeartbeats 8000000 in
set_option maxRecDepth 100000 in
theorem law_case33 {p : Program} {e : Env} {s : State} {m : MethodId} {below : List Frame} {meth : Method} {c : Code} {b L : Nat} {xs : Nat → Int32} (l : Launch) (dC : Nat → ClassId) (dI : Nat → Nat → Nat) (cB cI cJ cZ cP cQ : ClassId) (adK adV : Nat → Nat) (q0 : Option Nat) (a1 a2 : Nat) (x3 : Int32) (C0 : lw_At p s m meth c b L xs) (hL : L ≤ 3072) (hK : va_K (dC, dI) vwCl (zT cB cI cJ cZ cP cQ) s) (hX : zX zNW zAO s) (hE : zE adK adV q0 (fun q : Nat => s.heap.size ≤ q) s s.heap) (i cells slots : Nat) (hi : x3.toInt = i) (hiL : i + 6 ≤ L) (hc : cells + 18 ≤ 600000) (hs : slots + 1522 ≤ 7302250) (w1 w2 : va_W) (I1 : IX cB cI cJ cZ cP cQ a1 w1) (I2 : IM cB cI cJ cZ cP cQ a2 w2) (H : Heap) (locs : List Loc) (hP : va_P (dC, dI) vwCl (w1 ++ w2) H) (hD : va_D (fun q : Nat => s.heap.size ≤ q) (w1 ++ w2)) (hS : va_S (fun q : Nat => s.heap.size ≤ q) s.heap H locs) (ls : Array Slot) (hl : lv_has ls 4 [(3, .int x3), (2, .ref a2), (1, .ref a1), (0, .ref b)]) (kk : ∀ (w1 w2 : va_W) (H : Heap) (locs : List Loc) (ls : Array Slot), IX cB cI cJ cZ cP cQ a1 w1 → IM cB cI cJ cZ cP cQ a2 w2 → va_P (dC, dI) vwCl (w1 ++ w2) H → va_D (fun q : Nat => s.heap.size ≤ q) (w1 ++ w2) → va_S (fun q : Nat => s.heap.size ≤ q) s.heap H locs → lv_has ls 4 [(3, .int x3), (2, .ref a2), (1, .ref a1), (0, .ref b)] → W p l e room_1 s m #[Value.ref b] below meth c H locs (cells + 18) (slots + 1522) (lw_Z below #[Value.ref b] s) (F0 m 1615 ls [])) : W p l e room_1 s m #[Value.ref b] below meth c H locs cells slots (lw_Z below #[Value.ref b] s) (F0 m 1235 ls []) := by
  obtain ⟨hx, hb, hr, hml, hown, hts, hXs, hbl, hlocks, hgv⟩ := id C0
  have hown : s.vm.findClass RL = some m.cls := hown
  have hA : ∀ q : Nat, s.heap.size ≤ q → (fun q : Nat => s.heap.size ≤ q) q := fun _ h => h
  have hbA : ¬ (fun q : Nat => s.heap.size ≤ q) b := Nat.not_le.mpr hbl
  refine lv_aload_n hx hb dL_law_1235 rfl (lv_at hl 2 rfl) ?_
  refine lv_aload_n hx hb dL_law_1236 rfl (lv_at hl 3 rfl) ?_
  refine lv_iload_n hx hb dL_law_1237 rfl (lv_at hl 0 rfl) ?_
  refine lv_iconst (v := 1) hx hb dL_law_1238 (by decide) ?_
  refine lv_iadd hx hb dL_law_1239 ?_
  refine lv_topi (fun r1 h2 => ?_)
  have f3 : r1.toInt = x3.toInt + 1 := z_iadd h2 rfl (show Int32.toInt 1 = 1 from by decide) (by omega) (by omega)
  refine va_sld hx hb hXs hbl hbA hS (z_in rfl (by omega) (by omega)) dL_law_1240 ?_
  refine lv_topi (fun a4 h5 => ?_)
  refine lv_aload_n hx hb dL_law_1241 rfl (lv_at hl 3 rfl) ?_
  refine lv_iload_n hx hb dL_law_1242 rfl (lv_at hl 0 rfl) ?_
  refine lv_iconst (v := 2) hx hb dL_law_1243 (by decide) ?_
  refine lv_iadd hx hb dL_law_1244 ?_
  refine lv_topi (fun r6 h7 => ?_)
  have f8 : r6.toInt = x3.toInt + 2 := z_iadd h7 rfl (show Int32.toInt 2 = 2 from by decide) (by omega) (by omega)
  refine va_sld hx hb hXs hbl hbA hS (z_in rfl (by omega) (by omega)) dL_law_1245 ?_
  refine lv_topi (fun a9 h10 => ?_)
  refine lv_aload_n hx hb dL_law_1246 rfl (lv_at hl 3 rfl) ?_
  refine lv_iload_n hx hb dL_law_1247 rfl (lv_at hl 0 rfl) ?_
  refine lv_iconst (v := 3) hx hb dL_law_1248 (by decide) ?_
  refine lv_iadd hx hb dL_law_1249 ?_
  refine lv_topi (fun r11 h12 => ?_)
  have f13 : r11.toInt = x3.toInt + 3 := z_iadd h12 rfl (show Int32.toInt 3 = 3 from by decide) (by omega) (by omega)
  refine va_sld hx hb hXs hbl hbA hS (z_in rfl (by omega) (by omega)) dL_law_1250 ?_
  refine lv_topi (fun a14 h15 => ?_)
  refine lv_aload_n hx hb dL_law_1251 rfl (lv_at hl 3 rfl) ?_
  refine lv_iload_n hx hb dL_law_1252 rfl (lv_at hl 0 rfl) ?_
  refine lv_iconst (v := 4) hx hb dL_law_1253 (by decide) ?_
  refine lv_iadd hx hb dL_law_1254 ?_
  refine lv_topi (fun r16 h17 => ?_)
  have f18 : r16.toInt = x3.toInt + 4 := z_iadd h17 rfl (show Int32.toInt 4 = 4 from by decide) (by omega) (by omega)
  refine va_sld hx hb hXs hbl hbA hS (z_in rfl (by omega) (by omega)) dL_law_1255 ?_
  refine lv_topi (fun a19 h20 => ?_)
  refine lv_aload_n hx hb dL_law_1256 rfl (lv_at hl 3 rfl) ?_
  refine lv_iload_n hx hb dL_law_1257 rfl (lv_at hl 0 rfl) ?_
  refine lv_iconst (v := 5) hx hb dL_law_1258 (by decide) ?_
  refine lv_iadd hx hb dL_law_1259 ?_
  refine lv_topi (fun r21 h22 => ?_)
  have f23 : r21.toInt = x3.toInt + 5 := z_iadd h22 rfl (show Int32.toInt 5 = 5 from by decide) (by omega) (by omega)
  refine va_sld hx hb hXs hbl hbA hS (z_in rfl (by omega) (by omega)) dL_law_1260 ?_
  refine lv_topi (fun a24 h25 => ?_)
  refine f_fini (va_runV (As := [.int a4, .int a9, .int a14, .int a19, .int a24]) (rest := []) ⟨hx, hb, hml, hown, hts⟩ (q_X8_worlds l dC dI cB cI cJ cZ cP cQ adK adV q0 a1 H.size w1 a4 a9 a14 a19 a24 I1) (cwV 5 hts gT_X8_worlds rfl rfl rfl (by decide +kernel) ⟨Nat.le_of_ble_eq_true rfl, Nat.le_of_ble_eq_true rfl⟩) (f_pV (ci := 8) hE hS hA hK hP hD hX rfl (IX_recv I1)) rfl rfl hl.1 rfl (lv_room (Nat.le_of_ble_eq_true rfl)) dL_law_1261 ⟨by show _ + 0 ≤ 600000; omega, by show _ + 0 ≤ 7302250; omega⟩) hP hD hS hA (fun r26 w1 H locs hp hP hD hS => ?_)
  obtain ⟨I1, h27⟩ := hp
  refine lv_pop hx hb dL_law_1264 rfl ?_
  refine lv_aload_n hx hb dL_law_1265 rfl (lv_at hl 1 rfl) ?_
  refine lv_aload_n hx hb dL_law_1266 rfl (lv_at hl 3 rfl) ?_
  refine lv_iload_n hx hb dL_law_1267 rfl (lv_at hl 0 rfl) ?_
  refine lv_iconst (v := 1) hx hb dL_law_1268 (by decide) ?_
  refine lv_iadd hx hb dL_law_1269 ?_
  refine lv_topi (fun r28 h29 => ?_)
  have f30 : r28.toInt = x3.toInt + 1 := z_iadd h29 rfl (show Int32.toInt 1 = 1 from by decide) (by omega) (by omega)
  refine va_sld hx hb hXs hbl hbA hS (z_in rfl (by omega) (by omega)) dL_law_1270 ?_
  refine lv_topi (fun a31 h32 => ?_)
  refine lv_aload_n hx hb dL_law_1271 rfl (lv_at hl 3 rfl) ?_
  refine lv_iload_n hx hb dL_law_1272 rfl (lv_at hl 0 rfl) ?_
  refine lv_iconst (v := 2) hx hb dL_law_1273 (by decide) ?_
  refine lv_iadd hx hb dL_law_1274 ?_
  refine lv_topi (fun r33 h34 => ?_)
  have f35 : r33.toInt = x3.toInt + 2 := z_iadd h34 rfl (show Int32.toInt 2 = 2 from by decide) (by omega) (by omega)
  refine va_sld hx hb hXs hbl hbA hS (z_in rfl (by omega) (by omega)) dL_law_1275 ?_
  refine lv_topi (fun a36 h37 => ?_)
  refine lv_aload_n hx hb dL_law_1276 rfl (lv_at hl 3 rfl) ?_
  refine lv_iload_n hx hb dL_law_1277 rfl (lv_at hl 0 rfl) ?_
  refine lv_iconst (v := 3) hx hb dL_law_1278 (by decide) ?_
  refine lv_iadd hx hb dL_law_1279 ?_
  refine lv_topi (fun r38 h39 => ?_)
  have f40 : r38.toInt = x3.toInt + 3 := z_iadd h39 rfl (show Int32.toInt 3 = 3 from by decide) (by omega) (by omega)
  refine va_sld hx hb hXs hbl hbA hS (z_in rfl (by omega) (by omega)) dL_law_1280 ?_
  refine lv_topi (fun a41 h42 => ?_)
  refine lv_aload_n hx hb dL_law_1281 rfl (lv_at hl 3 rfl) ?_
  refine lv_iload_n hx hb dL_law_1282 rfl (lv_at hl 0 rfl) ?_
  refine lv_iconst (v := 4) hx hb dL_law_1283 (by decide) ?_
  refine lv_iadd hx hb dL_law_1284 ?_
  refine lv_topi (fun r43 h44 => ?_)
  have f45 : r43.toInt = x3.toInt + 4 := z_iadd h44 rfl (show Int32.toInt 4 = 4 from by decide) (by omega) (by omega)
  refine va_sld hx hb hXs hbl hbA hS (z_in rfl (by omega) (by omega)) dL_law_1285 ?_
  refine lv_topi (fun a46 h47 => ?_)
  refine lv_aload_n hx hb dL_law_1286 rfl (lv_at hl 3 rfl) ?_
  refine lv_iload_n hx hb dL_law_1287 rfl (lv_at hl 0 rfl) ?_
  refine lv_iconst (v := 5) hx hb dL_law_1288 (by decide) ?_
  refine lv_iadd hx hb dL_law_1289 ?_
  refine lv_topi (fun r48 h49 => ?_)
  have f50 : r48.toInt = x3.toInt + 5 := z_iadd h49 rfl (show Int32.toInt 5 = 5 from by decide) (by omega) (by omega)
  refine va_sld hx hb hXs hbl hbA hS (z_in rfl (by omega) (by omega)) dL_law_1290 ?_
  refine lv_topi (fun a51 h52 => ?_)
  have hP : va_P (dC, dI) vwCl (w2 ++ w1) H := f_Pm List.perm_append_comm hP
  have hD : va_D (fun q : Nat => s.heap.size ≤ q) (w2 ++ w1) := f_Dm List.perm_append_comm hD
  refine f_fini (va_runV (As := [.int a31, .int a36, .int a41, .int a46, .int a51]) (rest := []) ⟨hx, hb, hml, hown, hts⟩ (q_X9_worlds l dC dI cB cI cJ cZ cP cQ adK adV q0 a2 H.size w2 a31 a36 a41 a46 a51 I2) (cwV 5 hts gT_X9_worlds rfl rfl rfl (by decide +kernel) ⟨Nat.le_of_ble_eq_true rfl, Nat.le_of_ble_eq_true rfl⟩) (f_pV (ci := 9) hE hS hA hK hP hD hX rfl (IM_recv I2)) rfl rfl hl.1 rfl (lv_room (Nat.le_of_ble_eq_true rfl)) dL_law_1291 ⟨by show _ + 0 ≤ 600000; omega, by show _ + 0 ≤ 7302250; omega⟩) hP hD hS hA (fun r53 w2 H locs hp hP hD hS => ?_)
  obtain ⟨I2, h54⟩ := hp
  have hP : va_P (dC, dI) vwCl (w1 ++ w2) H := f_Pm List.perm_append_comm hP
  have hD : va_D (fun q : Nat => s.heap.size ≤ q) (w1 ++ w2) := f_Dm List.perm_append_comm hD
  refine lv_pop hx hb dL_law_1294 rfl ?_
  refine lv_goto (tgt := 1615) hx hb dL_law_1295 (by decide) ?_
  refine W.widen (k := cells + 18) (n := slots + 1522) (by omega) (by omega) ?_
  exact kk w1 w2 H locs ls I1 I2 hP hD hS (lv_sub hl [0, 1, 2, 3] rfl)
set_option maxHeartbeats 8000000 in
set_option maxRecDepth 100000 in
theorem law_case34 {p : Program} {e : Env} {s : State} {m : MethodId} {below : List Frame} {meth : Method} {c : Code} {b L : Nat} {xs : Nat → Int32} (l : Launch) (dC : Nat → ClassId) (dI : Nat → Nat → Nat) (cB cI cJ cZ cP cQ : ClassId) (adK adV : Nat → Nat) (q0 : Option Nat) (a1 a2 : Nat) (x3 : Int32) (C0 : lw_At p s m meth c b L xs) (hL : L ≤ 3072) (hK : va_K (dC, dI) vwCl (zT cB cI cJ cZ cP cQ) s) (hX : zX zNW zAO s) (hE : zE adK adV q0 (fun q : Nat => s.heap.size ≤ q) s s.heap) (i cells slots : Nat) (hi : x3.toInt = i) (hiL : i + 6 ≤ L) (hc : cells + 18 ≤ 600000) (hs : slots + 1522 ≤ 7302250) (w1 w2 : va_W) (I1 : IX cB cI cJ cZ cP cQ a1 w1) (I2 : IM cB cI cJ cZ cP cQ a2 w2) (H : Heap) (locs : List Loc) (hP : va_P (dC, dI) vwCl (w1 ++ w2) H) (hD : va_D (fun q : Nat => s.heap.size ≤ q) (w1 ++ w2)) (hS : va_S (fun q : Nat => s.heap.size ≤ q) s.heap H locs) (ls : Array Slot) (hl : lv_has ls 4 [(3, .int x3), (2, .ref a2), (1, .ref a1), (0, .ref b)]) (kk : ∀ (w1 w2 : va_W) (H : Heap) (locs : List Loc) (ls : Array Slot), IX cB cI cJ cZ cP cQ a1 w1 → IM cB cI cJ cZ cP cQ a2 w2 → va_P (dC, dI) vwCl (w1 ++ w2) H → va_D (fun q : Nat => s.heap.size ≤ q) (w1 ++ w2) → va_S (fun q : Nat => s.heap.size ≤ q) s.heap H locs → lv_has ls 4 [(3, .int x3), (2, .ref a2), (1, .ref a1), (0, .ref b)] → W p l e room_1 s m #[Value.ref b] below meth c H locs (cells + 18) (slots + 1522) (lw_Z below #[Value.ref b] s) (F0 m 1615 ls [])) : W p l e room_1 s m #[Value.ref b] below meth c H locs cells slots (lw_Z below #[Value.ref b] s) (F0 m 1298 ls []) := by
  obtain ⟨hx, hb, hr, hml, hown, hts, hXs, hbl, hlocks, hgv⟩ := id C0
  have hown : s.vm.findClass RL = some m.cls := hown
  have hA : ∀ q : Nat, s.heap.size ≤ q → (fun q : Nat => s.heap.size ≤ q) q := fun _ h => h
  have hbA : ¬ (fun q : Nat => s.heap.size ≤ q) b := Nat.not_le.mpr hbl
  refine lv_aload_n hx hb dL_law_1298 rfl (lv_at hl 2 rfl) ?_
  refine lv_aload_n hx hb dL_law_1299 rfl (lv_at hl 3 rfl) ?_
  refine lv_iload_n hx hb dL_law_1300 rfl (lv_at hl 0 rfl) ?_
  refine lv_iconst (v := 1) hx hb dL_law_1301 (by decide) ?_
  refine lv_iadd hx hb dL_law_1302 ?_
  refine lv_topi (fun r1 h2 => ?_)
  have f3 : r1.toInt = x3.toInt + 1 := z_iadd h2 rfl (show Int32.toInt 1 = 1 from by decide) (by omega) (by omega)
  refine va_sld hx hb hXs hbl hbA hS (z_in rfl (by omega) (by omega)) dL_law_1303 ?_
  refine lv_topi (fun a4 h5 => ?_)
  refine f_fini (va_runV (As := [.int a4]) (rest := []) ⟨hx, hb, hml, hown, hts⟩ (q_X8_only l dC dI cB cI cJ cZ cP cQ adK adV q0 a1 H.size w1 a4 I1) (cwV 1 hts gT_X8_only rfl rfl rfl (by decide +kernel) ⟨Nat.le_of_ble_eq_true rfl, Nat.le_of_ble_eq_true rfl⟩) (f_pV (ci := 8) hE hS hA hK hP hD hX rfl (IX_recv I1)) rfl rfl hl.1 rfl (lv_room (Nat.le_of_ble_eq_true rfl)) dL_law_1304 ⟨by show _ + 0 ≤ 600000; omega, by show _ + 0 ≤ 7302250; omega⟩) hP hD hS hA (fun r6 w1 H locs hp hP hD hS => ?_)
  obtain ⟨I1, h7⟩ := hp
  refine lv_pop hx hb dL_law_1307 rfl ?_
  refine lv_aload_n hx hb dL_law_1308 rfl (lv_at hl 1 rfl) ?_
  refine lv_aload_n hx hb dL_law_1309 rfl (lv_at hl 3 rfl) ?_
  refine lv_iload_n hx hb dL_law_1310 rfl (lv_at hl 0 rfl) ?_
  refine lv_iconst (v := 1) hx hb dL_law_1311 (by decide) ?_
  refine lv_iadd hx hb dL_law_1312 ?_
  refine lv_topi (fun r8 h9 => ?_)
  have f10 : r8.toInt = x3.toInt + 1 := z_iadd h9 rfl (show Int32.toInt 1 = 1 from by decide) (by omega) (by omega)
  refine va_sld hx hb hXs hbl hbA hS (z_in rfl (by omega) (by omega)) dL_law_1313 ?_
  refine lv_topi (fun a11 h12 => ?_)
  have hP : va_P (dC, dI) vwCl (w2 ++ w1) H := f_Pm List.perm_append_comm hP
  have hD : va_D (fun q : Nat => s.heap.size ≤ q) (w2 ++ w1) := f_Dm List.perm_append_comm hD
  refine f_fini (va_runV (As := [.int a11]) (rest := []) ⟨hx, hb, hml, hown, hts⟩ (q_X9_only l dC dI cB cI cJ cZ cP cQ adK adV q0 a2 H.size w2 a11 I2) (cwV 1 hts gT_X9_only rfl rfl rfl (by decide +kernel) ⟨Nat.le_of_ble_eq_true rfl, Nat.le_of_ble_eq_true rfl⟩) (f_pV (ci := 9) hE hS hA hK hP hD hX rfl (IM_recv I2)) rfl rfl hl.1 rfl (lv_room (Nat.le_of_ble_eq_true rfl)) dL_law_1314 ⟨by show _ + 0 ≤ 600000; omega, by show _ + 0 ≤ 7302250; omega⟩) hP hD hS hA (fun r13 w2 H locs hp hP hD hS => ?_)
  obtain ⟨I2, h14⟩ := hp
  have hP : va_P (dC, dI) vwCl (w1 ++ w2) H := f_Pm List.perm_append_comm hP
  have hD : va_D (fun q : Nat => s.heap.size ≤ q) (w1 ++ w2) := f_Dm List.perm_append_comm hD
  refine lv_pop hx hb dL_law_1317 rfl ?_
  refine lv_goto (tgt := 1615) hx hb dL_law_1318 (by decide) ?_
  refine W.widen (k := cells + 18) (n := slots + 1522) (by omega) (by omega) ?_
  exact kk w1 w2 H locs ls I1 I2 hP hD hS (lv_sub hl [0, 1, 2, 3] rfl)
set_option maxHeartbeats 8000000 in
set_option maxRecDepth 100000 in
theorem law_case35 {p : Program} {e : Env} {s : State} {m : MethodId} {below : List Frame} {meth : Method} {c : Code} {b L : Nat} {xs : Nat → Int32} (l : Launch) (dC : Nat → ClassId) (dI : Nat → Nat → Nat) (cB cI cJ cZ cP cQ : ClassId) (adK adV : Nat → Nat) (q0 : Option Nat) (a1 a2 : Nat) (x3 : Int32) (C0 : lw_At p s m meth c b L xs) (hL : L ≤ 3072) (hK : va_K (dC, dI) vwCl (zT cB cI cJ cZ cP cQ) s) (hX : zX zNW zAO s) (hE : zE adK adV q0 (fun q : Nat => s.heap.size ≤ q) s s.heap) (i cells slots : Nat) (hi : x3.toInt = i) (hiL : i + 6 ≤ L) (hc : cells + 18 ≤ 600000) (hs : slots + 1522 ≤ 7302250) (w1 w2 : va_W) (I1 : IX cB cI cJ cZ cP cQ a1 w1) (I2 : IM cB cI cJ cZ cP cQ a2 w2) (H : Heap) (locs : List Loc) (hP : va_P (dC, dI) vwCl (w1 ++ w2) H) (hD : va_D (fun q : Nat => s.heap.size ≤ q) (w1 ++ w2)) (hS : va_S (fun q : Nat => s.heap.size ≤ q) s.heap H locs) (ls : Array Slot) (hl : lv_has ls 4 [(3, .int x3), (2, .ref a2), (1, .ref a1), (0, .ref b)]) (kk : ∀ (w1 w2 : va_W) (H : Heap) (locs : List Loc) (ls : Array Slot), IX cB cI cJ cZ cP cQ a1 w1 → IM cB cI cJ cZ cP cQ a2 w2 → va_P (dC, dI) vwCl (w1 ++ w2) H → va_D (fun q : Nat => s.heap.size ≤ q) (w1 ++ w2) → va_S (fun q : Nat => s.heap.size ≤ q) s.heap H locs → lv_has ls 4 [(3, .int x3), (2, .ref a2), (1, .ref a1), (0, .ref b)] → W p l e room_1 s m #[Value.ref b] below meth c H locs (cells + 18) (slots + 1522) (lw_Z below #[Value.ref b] s) (F0 m 1615 ls [])) : W p l e room_1 s m #[Value.ref b] below meth c H locs cells slots (lw_Z below #[Value.ref b] s) (F0 m 1321 ls []) := by
  obtain ⟨hx, hb, hr, hml, hown, hts, hXs, hbl, hlocks, hgv⟩ := id C0
  have hown : s.vm.findClass RL = some m.cls := hown
  have hA : ∀ q : Nat, s.heap.size ≤ q → (fun q : Nat => s.heap.size ≤ q) q := fun _ h => h
  have hbA : ¬ (fun q : Nat => s.heap.size ≤ q) b := Nat.not_le.mpr hbl
  refine lv_aload_n hx hb dL_law_1321 rfl (lv_at hl 2 rfl) ?_
  refine lv_aload_n hx hb dL_law_1322 rfl (lv_at hl 3 rfl) ?_
  refine lv_iload_n hx hb dL_law_1323 rfl (lv_at hl 0 rfl) ?_
  refine lv_iconst (v := 1) hx hb dL_law_1324 (by decide) ?_
  refine lv_iadd hx hb dL_law_1325 ?_
  refine lv_topi (fun r1 h2 => ?_)
  have f3 : r1.toInt = x3.toInt + 1 := z_iadd h2 rfl (show Int32.toInt 1 = 1 from by decide) (by omega) (by omega)
  refine va_sld hx hb hXs hbl hbA hS (z_in rfl (by omega) (by omega)) dL_law_1326 ?_
  refine lv_topi (fun a4 h5 => ?_)
  refine f_fini (va_runV (As := [.int a4]) (rest := []) ⟨hx, hb, hml, hown, hts⟩ (q_X8_judge l dC dI cB cI cJ cZ cP cQ adK adV q0 a1 H.size w1 a4 I1) (cwV 1 hts gT_X8_judge rfl rfl rfl (by decide +kernel) ⟨Nat.le_of_ble_eq_true rfl, Nat.le_of_ble_eq_true rfl⟩) (f_pV (ci := 8) hE hS hA hK hP hD hX rfl (IX_recv I1)) rfl rfl hl.1 rfl (lv_room (Nat.le_of_ble_eq_true rfl)) dL_law_1327 ⟨by show _ + 0 ≤ 600000; omega, by show _ + 0 ≤ 7302250; omega⟩) hP hD hS hA (fun r6 w1 H locs hp hP hD hS => ?_)
  obtain ⟨I1, h7⟩ := hp
  refine lv_pop hx hb dL_law_1330 rfl ?_
  refine lv_aload_n hx hb dL_law_1331 rfl (lv_at hl 1 rfl) ?_
  refine lv_aload_n hx hb dL_law_1332 rfl (lv_at hl 3 rfl) ?_
  refine lv_iload_n hx hb dL_law_1333 rfl (lv_at hl 0 rfl) ?_
  refine lv_iconst (v := 1) hx hb dL_law_1334 (by decide) ?_
  refine lv_iadd hx hb dL_law_1335 ?_
  refine lv_topi (fun r8 h9 => ?_)
  have f10 : r8.toInt = x3.toInt + 1 := z_iadd h9 rfl (show Int32.toInt 1 = 1 from by decide) (by omega) (by omega)
  refine va_sld hx hb hXs hbl hbA hS (z_in rfl (by omega) (by omega)) dL_law_1336 ?_
  refine lv_topi (fun a11 h12 => ?_)
  have hP : va_P (dC, dI) vwCl (w2 ++ w1) H := f_Pm List.perm_append_comm hP
  have hD : va_D (fun q : Nat => s.heap.size ≤ q) (w2 ++ w1) := f_Dm List.perm_append_comm hD
  refine f_fini (va_runV (As := [.int a11]) (rest := []) ⟨hx, hb, hml, hown, hts⟩ (q_X9_judge l dC dI cB cI cJ cZ cP cQ adK adV q0 a2 H.size w2 a11 I2) (cwV 1 hts gT_X9_judge rfl rfl rfl (by decide +kernel) ⟨Nat.le_of_ble_eq_true rfl, Nat.le_of_ble_eq_true rfl⟩) (f_pV (ci := 9) hE hS hA hK hP hD hX rfl (IM_recv I2)) rfl rfl hl.1 rfl (lv_room (Nat.le_of_ble_eq_true rfl)) dL_law_1337 ⟨by show _ + 0 ≤ 600000; omega, by show _ + 0 ≤ 7302250; omega⟩) hP hD hS hA (fun r13 w2 H locs hp hP hD hS => ?_)
  obtain ⟨I2, h14⟩ := hp
  have hP : va_P (dC, dI) vwCl (w1 ++ w2) H := f_Pm List.perm_append_comm hP
  have hD : va_D (fun q : Nat => s.heap.size ≤ q) (w1 ++ w2) := f_Dm List.perm_append_comm hD
  refine lv_pop hx hb dL_law_1340 rfl ?_
  refine lv_goto (tgt := 1615) hx hb dL_law_1341 (by decide) ?_
  refine W.widen (k := cells + 18) (n := slots + 1522) (by omega) (by omega) ?_
  exact kk w1 w2 H locs ls I1 I2 hP hD hS (lv_sub hl [0, 1, 2, 3] rfl)
set_option maxHeartbeats 8000000 in
set_option maxRecDepth 100000 in
theorem law_case36 {p : Program} {e : Env} {s : State} {m : MethodId} {below : List Frame} {meth : Method} {c : Code} {b L : Nat} {xs : Nat → Int32} (l : Launch) (dC : Nat → ClassId) (dI : Nat → Nat → Nat) (cB cI cJ cZ cP cQ : ClassId) (adK adV : Nat → Nat) (q0 : Option Nat) (a1 a2 : Nat) (x3 : Int32) (C0 : lw_At p s m meth c b L xs) (hL : L ≤ 3072) (hK : va_K (dC, dI) vwCl (zT cB cI cJ cZ cP cQ) s) (hX : zX zNW zAO s) (hE : zE adK adV q0 (fun q : Nat => s.heap.size ≤ q) s s.heap) (i cells slots : Nat) (hi : x3.toInt = i) (hiL : i + 6 ≤ L) (hc : cells + 18 ≤ 600000) (hs : slots + 1522 ≤ 7302250) (w1 w2 : va_W) (I1 : IX cB cI cJ cZ cP cQ a1 w1) (I2 : IM cB cI cJ cZ cP cQ a2 w2) (H : Heap) (locs : List Loc) (hP : va_P (dC, dI) vwCl (w1 ++ w2) H) (hD : va_D (fun q : Nat => s.heap.size ≤ q) (w1 ++ w2)) (hS : va_S (fun q : Nat => s.heap.size ≤ q) s.heap H locs) (ls : Array Slot) (hl : lv_has ls 4 [(3, .int x3), (2, .ref a2), (1, .ref a1), (0, .ref b)]) (kk : ∀ (w1 w2 : va_W) (H : Heap) (locs : List Loc) (ls : Array Slot), IX cB cI cJ cZ cP cQ a1 w1 → IM cB cI cJ cZ cP cQ a2 w2 → va_P (dC, dI) vwCl (w1 ++ w2) H → va_D (fun q : Nat => s.heap.size ≤ q) (w1 ++ w2) → va_S (fun q : Nat => s.heap.size ≤ q) s.heap H locs → lv_has ls 4 [(3, .int x3), (2, .ref a2), (1, .ref a1), (0, .ref b)] → W p l e room_1 s m #[Value.ref b] below meth c H locs (cells + 18) (slots + 1522) (lw_Z below #[Value.ref b] s) (F0 m 1615 ls [])) : W p l e room_1 s m #[Value.ref b] below meth c H locs cells slots (lw_Z below #[Value.ref b] s) (F0 m 1344 ls []) := by
  obtain ⟨hx, hb, hr, hml, hown, hts, hXs, hbl, hlocks, hgv⟩ := id C0
  have hown : s.vm.findClass RL = some m.cls := hown
  have hA : ∀ q : Nat, s.heap.size ≤ q → (fun q : Nat => s.heap.size ≤ q) q := fun _ h => h
  have hbA : ¬ (fun q : Nat => s.heap.size ≤ q) b := Nat.not_le.mpr hbl
  refine lv_aload_n hx hb dL_law_1344 rfl (lv_at hl 2 rfl) ?_
  refine lv_aload_n hx hb dL_law_1345 rfl (lv_at hl 3 rfl) ?_
  refine lv_iload_n hx hb dL_law_1346 rfl (lv_at hl 0 rfl) ?_
  refine lv_iconst (v := 1) hx hb dL_law_1347 (by decide) ?_
  refine lv_iadd hx hb dL_law_1348 ?_
  refine lv_topi (fun r1 h2 => ?_)
  have f3 : r1.toInt = x3.toInt + 1 := z_iadd h2 rfl (show Int32.toInt 1 = 1 from by decide) (by omega) (by omega)
  refine va_sld hx hb hXs hbl hbA hS (z_in rfl (by omega) (by omega)) dL_law_1349 ?_
  refine lv_topi (fun a4 h5 => ?_)
  refine f_fini (va_runV (As := [.int a4]) (rest := []) ⟨hx, hb, hml, hown, hts⟩ (q_X8_sheets l dC dI cB cI cJ cZ cP cQ adK adV q0 a1 H.size w1 a4 I1) (cwV 1 hts gT_X8_sheets rfl rfl rfl (by decide +kernel) ⟨Nat.le_of_ble_eq_true rfl, Nat.le_of_ble_eq_true rfl⟩) (f_pV (ci := 8) hE hS hA hK hP hD hX rfl (IX_recv I1)) rfl rfl hl.1 rfl (lv_room (Nat.le_of_ble_eq_true rfl)) dL_law_1350 ⟨by show _ + 0 ≤ 600000; omega, by show _ + 0 ≤ 7302250; omega⟩) hP hD hS hA (fun r6 w1 H locs hp hP hD hS => ?_)
  obtain ⟨I1, h7⟩ := hp
  refine lv_pop hx hb dL_law_1353 rfl ?_
  refine lv_aload_n hx hb dL_law_1354 rfl (lv_at hl 1 rfl) ?_
  refine lv_aload_n hx hb dL_law_1355 rfl (lv_at hl 3 rfl) ?_
  refine lv_iload_n hx hb dL_law_1356 rfl (lv_at hl 0 rfl) ?_
  refine lv_iconst (v := 1) hx hb dL_law_1357 (by decide) ?_
  refine lv_iadd hx hb dL_law_1358 ?_
  refine lv_topi (fun r8 h9 => ?_)
  have f10 : r8.toInt = x3.toInt + 1 := z_iadd h9 rfl (show Int32.toInt 1 = 1 from by decide) (by omega) (by omega)
  refine va_sld hx hb hXs hbl hbA hS (z_in rfl (by omega) (by omega)) dL_law_1359 ?_
  refine lv_topi (fun a11 h12 => ?_)
  have hP : va_P (dC, dI) vwCl (w2 ++ w1) H := f_Pm List.perm_append_comm hP
  have hD : va_D (fun q : Nat => s.heap.size ≤ q) (w2 ++ w1) := f_Dm List.perm_append_comm hD
  refine f_fini (va_runV (As := [.int a11]) (rest := []) ⟨hx, hb, hml, hown, hts⟩ (q_X9_sheets l dC dI cB cI cJ cZ cP cQ adK adV q0 a2 H.size w2 a11 I2) (cwV 1 hts gT_X9_sheets rfl rfl rfl (by decide +kernel) ⟨Nat.le_of_ble_eq_true rfl, Nat.le_of_ble_eq_true rfl⟩) (f_pV (ci := 9) hE hS hA hK hP hD hX rfl (IM_recv I2)) rfl rfl hl.1 rfl (lv_room (Nat.le_of_ble_eq_true rfl)) dL_law_1360 ⟨by show _ + 0 ≤ 600000; omega, by show _ + 0 ≤ 7302250; omega⟩) hP hD hS hA (fun r13 w2 H locs hp hP hD hS => ?_)
  obtain ⟨I2, h14⟩ := hp
  have hP : va_P (dC, dI) vwCl (w1 ++ w2) H := f_Pm List.perm_append_comm hP
  have hD : va_D (fun q : Nat => s.heap.size ≤ q) (w1 ++ w2) := f_Dm List.perm_append_comm hD
  refine lv_pop hx hb dL_law_1363 rfl ?_
  refine lv_goto (tgt := 1615) hx hb dL_law_1364 (by decide) ?_
  refine W.widen (k := cells + 18) (n := slots + 1522) (by omega) (by omega) ?_
  exact kk w1 w2 H locs ls I1 I2 hP hD hS (lv_sub hl [0, 1, 2, 3] rfl)
set_option maxHeartbeats 8000000 in
set_option maxRecDepth 100000 in
theorem law_case37 {p : Program} {e : Env} {s : State} {m : MethodId} {below : List Frame} {meth : Method} {c : Code} {b L : Nat} {xs : Nat → Int32} (l : Launch) (dC : Nat → ClassId) (dI : Nat → Nat → Nat) (cB cI cJ cZ cP cQ : ClassId) (adK adV : Nat → Nat) (q0 : Option Nat) (a1 a2 : Nat) (x3 : Int32) (C0 : lw_At p s m meth c b L xs) (hL : L ≤ 3072) (hK : va_K (dC, dI) vwCl (zT cB cI cJ cZ cP cQ) s) (hX : zX zNW zAO s) (hE : zE adK adV q0 (fun q : Nat => s.heap.size ≤ q) s s.heap) (i cells slots : Nat) (hi : x3.toInt = i) (hiL : i + 6 ≤ L) (hc : cells + 18 ≤ 600000) (hs : slots + 1522 ≤ 7302250) (w1 w2 : va_W) (I1 : IX cB cI cJ cZ cP cQ a1 w1) (I2 : IM cB cI cJ cZ cP cQ a2 w2) (H : Heap) (locs : List Loc) (hP : va_P (dC, dI) vwCl (w1 ++ w2) H) (hD : va_D (fun q : Nat => s.heap.size ≤ q) (w1 ++ w2)) (hS : va_S (fun q : Nat => s.heap.size ≤ q) s.heap H locs) (ls : Array Slot) (hl : lv_has ls 4 [(3, .int x3), (2, .ref a2), (1, .ref a1), (0, .ref b)]) (kk : ∀ (w1 w2 : va_W) (H : Heap) (locs : List Loc) (ls : Array Slot), IX cB cI cJ cZ cP cQ a1 w1 → IM cB cI cJ cZ cP cQ a2 w2 → va_P (dC, dI) vwCl (w1 ++ w2) H → va_D (fun q : Nat => s.heap.size ≤ q) (w1 ++ w2) → va_S (fun q : Nat => s.heap.size ≤ q) s.heap H locs → lv_has ls 4 [(3, .int x3), (2, .ref a2), (1, .ref a1), (0, .ref b)] → W p l e room_1 s m #[Value.ref b] below meth c H locs (cells + 18) (slots + 1522) (lw_Z below #[Value.ref b] s) (F0 m 1615 ls [])) : W p l e room_1 s m #[Value.ref b] below meth c H locs cells slots (lw_Z below #[Value.ref b] s) (F0 m 1367 ls []) := by
  obtain ⟨hx, hb, hr, hml, hown, hts, hXs, hbl, hlocks, hgv⟩ := id C0
  have hown : s.vm.findClass RL = some m.cls := hown
  have hA : ∀ q : Nat, s.heap.size ≤ q → (fun q : Nat => s.heap.size ≤ q) q := fun _ h => h
  have hbA : ¬ (fun q : Nat => s.heap.size ≤ q) b := Nat.not_le.mpr hbl
  refine lv_aload_n hx hb dL_law_1367 rfl (lv_at hl 2 rfl) ?_
  refine lv_aload_n hx hb dL_law_1368 rfl (lv_at hl 3 rfl) ?_
  refine lv_iload_n hx hb dL_law_1369 rfl (lv_at hl 0 rfl) ?_
  refine lv_iconst (v := 1) hx hb dL_law_1370 (by decide) ?_
  refine lv_iadd hx hb dL_law_1371 ?_
  refine lv_topi (fun r1 h2 => ?_)
  have f3 : r1.toInt = x3.toInt + 1 := z_iadd h2 rfl (show Int32.toInt 1 = 1 from by decide) (by omega) (by omega)
  refine va_sld hx hb hXs hbl hbA hS (z_in rfl (by omega) (by omega)) dL_law_1372 ?_
  refine lv_topi (fun a4 h5 => ?_)
  refine f_fini (va_runV (As := [.int a4]) (rest := []) ⟨hx, hb, hml, hown, hts⟩ (q_X8_count l dC dI cB cI cJ cZ cP cQ adK adV q0 a1 H.size w1 a4 I1) (cwV 1 hts gT_X8_count rfl rfl rfl (by decide +kernel) ⟨Nat.le_of_ble_eq_true rfl, Nat.le_of_ble_eq_true rfl⟩) (f_pV (ci := 8) hE hS hA hK hP hD hX rfl (IX_recv I1)) rfl rfl hl.1 rfl (lv_room (Nat.le_of_ble_eq_true rfl)) dL_law_1373 ⟨by show _ + 0 ≤ 600000; omega, by show _ + 0 ≤ 7302250; omega⟩) hP hD hS hA (fun r6 w1 H locs hp hP hD hS => ?_)
  obtain ⟨I1, h7⟩ := hp
  refine lv_pop hx hb dL_law_1376 rfl ?_
  refine lv_aload_n hx hb dL_law_1377 rfl (lv_at hl 1 rfl) ?_
  refine lv_aload_n hx hb dL_law_1378 rfl (lv_at hl 3 rfl) ?_
  refine lv_iload_n hx hb dL_law_1379 rfl (lv_at hl 0 rfl) ?_
  refine lv_iconst (v := 1) hx hb dL_law_1380 (by decide) ?_
  refine lv_iadd hx hb dL_law_1381 ?_
  refine lv_topi (fun r8 h9 => ?_)
  have f10 : r8.toInt = x3.toInt + 1 := z_iadd h9 rfl (show Int32.toInt 1 = 1 from by decide) (by omega) (by omega)
  refine va_sld hx hb hXs hbl hbA hS (z_in rfl (by omega) (by omega)) dL_law_1382 ?_
  refine lv_topi (fun a11 h12 => ?_)
  have hP : va_P (dC, dI) vwCl (w2 ++ w1) H := f_Pm List.perm_append_comm hP
  have hD : va_D (fun q : Nat => s.heap.size ≤ q) (w2 ++ w1) := f_Dm List.perm_append_comm hD
  refine f_fini (va_runV (As := [.int a11]) (rest := []) ⟨hx, hb, hml, hown, hts⟩ (q_X9_count l dC dI cB cI cJ cZ cP cQ adK adV q0 a2 H.size w2 a11 I2) (cwV 1 hts gT_X9_count rfl rfl rfl (by decide +kernel) ⟨Nat.le_of_ble_eq_true rfl, Nat.le_of_ble_eq_true rfl⟩) (f_pV (ci := 9) hE hS hA hK hP hD hX rfl (IM_recv I2)) rfl rfl hl.1 rfl (lv_room (Nat.le_of_ble_eq_true rfl)) dL_law_1383 ⟨by show _ + 0 ≤ 600000; omega, by show _ + 0 ≤ 7302250; omega⟩) hP hD hS hA (fun r13 w2 H locs hp hP hD hS => ?_)
  obtain ⟨I2, h14⟩ := hp
  have hP : va_P (dC, dI) vwCl (w1 ++ w2) H := f_Pm List.perm_append_comm hP
  have hD : va_D (fun q : Nat => s.heap.size ≤ q) (w1 ++ w2) := f_Dm List.perm_append_comm hD
  refine lv_pop hx hb dL_law_1386 rfl ?_
  refine lv_goto (tgt := 1615) hx hb dL_law_1387 (by decide) ?_
  refine W.widen (k := cells + 18) (n := slots + 1522) (by omega) (by omega) ?_
  exact kk w1 w2 H locs ls I1 I2 hP hD hS (lv_sub hl [0, 1, 2, 3] rfl)
set_option maxHeartbeats 8000000 in
set_option maxRecDepth 100000 in
theorem law_case38 {p : Program} {e : Env} {s : State} {m : MethodId} {below : List Frame} {meth : Method} {c : Code} {b L : Nat} {xs : Nat → Int32} (l : Launch) (dC : Nat → ClassId) (dI : Nat → Nat → Nat) (cB cI cJ cZ cP cQ : ClassId) (adK adV : Nat → Nat) (q0 : Option Nat) (a1 a2 : Nat) (x3 : Int32) (C0 : lw_At p s m meth c b L xs) (hL : L ≤ 3072) (hK : va_K (dC, dI) vwCl (zT cB cI cJ cZ cP cQ) s) (hX : zX zNW zAO s) (hE : zE adK adV q0 (fun q : Nat => s.heap.size ≤ q) s s.heap) (i cells slots : Nat) (hi : x3.toInt = i) (hiL : i + 6 ≤ L) (hc : cells + 18 ≤ 600000) (hs : slots + 1522 ≤ 7302250) (w1 w2 : va_W) (I1 : IX cB cI cJ cZ cP cQ a1 w1) (I2 : IM cB cI cJ cZ cP cQ a2 w2) (H : Heap) (locs : List Loc) (hP : va_P (dC, dI) vwCl (w1 ++ w2) H) (hD : va_D (fun q : Nat => s.heap.size ≤ q) (w1 ++ w2)) (hS : va_S (fun q : Nat => s.heap.size ≤ q) s.heap H locs) (ls : Array Slot) (hl : lv_has ls 4 [(3, .int x3), (2, .ref a2), (1, .ref a1), (0, .ref b)]) (kk : ∀ (w1 w2 : va_W) (H : Heap) (locs : List Loc) (ls : Array Slot), IX cB cI cJ cZ cP cQ a1 w1 → IM cB cI cJ cZ cP cQ a2 w2 → va_P (dC, dI) vwCl (w1 ++ w2) H → va_D (fun q : Nat => s.heap.size ≤ q) (w1 ++ w2) → va_S (fun q : Nat => s.heap.size ≤ q) s.heap H locs → lv_has ls 4 [(3, .int x3), (2, .ref a2), (1, .ref a1), (0, .ref b)] → W p l e room_1 s m #[Value.ref b] below meth c H locs (cells + 18) (slots + 1522) (lw_Z below #[Value.ref b] s) (F0 m 1615 ls [])) : W p l e room_1 s m #[Value.ref b] below meth c H locs cells slots (lw_Z below #[Value.ref b] s) (F0 m 1390 ls []) := by
  obtain ⟨hx, hb, hr, hml, hown, hts, hXs, hbl, hlocks, hgv⟩ := id C0
  have hown : s.vm.findClass RL = some m.cls := hown
  have hA : ∀ q : Nat, s.heap.size ≤ q → (fun q : Nat => s.heap.size ≤ q) q := fun _ h => h
  have hbA : ¬ (fun q : Nat => s.heap.size ≤ q) b := Nat.not_le.mpr hbl
  refine lv_aload_n hx hb dL_law_1390 rfl (lv_at hl 2 rfl) ?_
  refine lv_aload_n hx hb dL_law_1391 rfl (lv_at hl 3 rfl) ?_
  refine lv_iload_n hx hb dL_law_1392 rfl (lv_at hl 0 rfl) ?_
  refine lv_iconst (v := 1) hx hb dL_law_1393 (by decide) ?_
  refine lv_iadd hx hb dL_law_1394 ?_
  refine lv_topi (fun r1 h2 => ?_)
  have f3 : r1.toInt = x3.toInt + 1 := z_iadd h2 rfl (show Int32.toInt 1 = 1 from by decide) (by omega) (by omega)
  refine va_sld hx hb hXs hbl hbA hS (z_in rfl (by omega) (by omega)) dL_law_1395 ?_
  refine lv_topi (fun a4 h5 => ?_)
  refine f_fini (va_runV (As := [.int a4]) (rest := []) ⟨hx, hb, hml, hown, hts⟩ (q_X8_keep l dC dI cB cI cJ cZ cP cQ adK adV q0 a1 H.size w1 a4 I1) (cwV 1 hts gT_X8_keep rfl rfl rfl (by decide +kernel) ⟨Nat.le_of_ble_eq_true rfl, Nat.le_of_ble_eq_true rfl⟩) (f_pV (ci := 8) hE hS hA hK hP hD hX rfl (IX_recv I1)) rfl rfl hl.1 rfl (lv_room (Nat.le_of_ble_eq_true rfl)) dL_law_1396 ⟨by show _ + 18 ≤ 600000; omega, by show _ + 1522 ≤ 7302250; omega⟩) hP hD hS hA (fun r6 w1 H locs hp hP hD hS => ?_)
  obtain ⟨I1, h7⟩ := hp
  refine lv_aload_n hx hb dL_law_1399 rfl (lv_at hl 1 rfl) ?_
  refine lv_aload_n hx hb dL_law_1400 rfl (lv_at hl 3 rfl) ?_
  refine lv_iload_n hx hb dL_law_1401 rfl (lv_at hl 0 rfl) ?_
  refine lv_iconst (v := 1) hx hb dL_law_1402 (by decide) ?_
  refine lv_iadd hx hb dL_law_1403 ?_
  refine lv_topi (fun r8 h9 => ?_)
  have f10 : r8.toInt = x3.toInt + 1 := z_iadd h9 rfl (show Int32.toInt 1 = 1 from by decide) (by omega) (by omega)
  refine va_sld hx hb hXs hbl hbA hS (z_in rfl (by omega) (by omega)) dL_law_1404 ?_
  refine lv_topi (fun a11 h12 => ?_)
  have hP : va_P (dC, dI) vwCl (w2 ++ w1) H := f_Pm List.perm_append_comm hP
  have hD : va_D (fun q : Nat => s.heap.size ≤ q) (w2 ++ w1) := f_Dm List.perm_append_comm hD
  refine f_fini (va_runV (As := [.int a11]) (rest := [.int r6]) ⟨hx, hb, hml, hown, hts⟩ (q_X9_keep l dC dI cB cI cJ cZ cP cQ adK adV q0 a2 H.size w2 a11 I2) (cwV 1 hts gT_X9_keep rfl rfl rfl (by decide +kernel) ⟨Nat.le_of_ble_eq_true rfl, Nat.le_of_ble_eq_true rfl⟩) (f_pV (ci := 9) hE hS hA hK hP hD hX rfl (IM_recv I2)) rfl rfl hl.1 rfl (lv_room (Nat.le_of_ble_eq_true rfl)) dL_law_1405 ⟨by show _ + 0 ≤ 600000; omega, by show _ + 0 ≤ 7302250; omega⟩) hP hD hS hA (fun r13 w2 H locs hp hP hD hS => ?_)
  obtain ⟨I2, h14⟩ := hp
  have hP : va_P (dC, dI) vwCl (w1 ++ w2) H := f_Pm List.perm_append_comm hP
  have hD : va_D (fun q : Nat => s.heap.size ≤ q) (w1 ++ w2) := f_Dm List.perm_append_comm hD
  have t15 : a11.toInt = a4.toInt := by rw [h12, h5, z_clE (x := r8) (y := r1) (by omega)]
  have heq : r6 = r13 := z_int (by omega)
  refine lv_icmp_eq (tgt := 1615) hx hb dL_law_1408 (by decide) (fun _ => ?_) (fun c => absurd heq c)
  refine W.widen (k := cells + 18) (n := slots + 1522) (by omega) (by omega) ?_
  exact kk w1 w2 H locs ls I1 I2 hP hD hS (lv_sub hl [0, 1, 2, 3] rfl)
set_option maxHeartbeats 8000000 in
set_option maxRecDepth 100000 in
theorem law_case39 {p : Program} {e : Env} {s : State} {m : MethodId} {below : List Frame} {meth : Method} {c : Code} {b L : Nat} {xs : Nat → Int32} (l : Launch) (dC : Nat → ClassId) (dI : Nat → Nat → Nat) (cB cI cJ cZ cP cQ : ClassId) (adK adV : Nat → Nat) (q0 : Option Nat) (a1 a2 : Nat) (x3 : Int32) (C0 : lw_At p s m meth c b L xs) (hL : L ≤ 3072) (hK : va_K (dC, dI) vwCl (zT cB cI cJ cZ cP cQ) s) (hX : zX zNW zAO s) (hE : zE adK adV q0 (fun q : Nat => s.heap.size ≤ q) s s.heap) (i cells slots : Nat) (hi : x3.toInt = i) (hiL : i + 6 ≤ L) (hc : cells + 18 ≤ 600000) (hs : slots + 1522 ≤ 7302250) (w1 w2 : va_W) (I1 : IX cB cI cJ cZ cP cQ a1 w1) (I2 : IM cB cI cJ cZ cP cQ a2 w2) (H : Heap) (locs : List Loc) (hP : va_P (dC, dI) vwCl (w1 ++ w2) H) (hD : va_D (fun q : Nat => s.heap.size ≤ q) (w1 ++ w2)) (hS : va_S (fun q : Nat => s.heap.size ≤ q) s.heap H locs) (ls : Array Slot) (hl : lv_has ls 4 [(3, .int x3), (2, .ref a2), (1, .ref a1), (0, .ref b)]) (kk : ∀ (w1 w2 : va_W) (H : Heap) (locs : List Loc) (ls : Array Slot), IX cB cI cJ cZ cP cQ a1 w1 → IM cB cI cJ cZ cP cQ a2 w2 → va_P (dC, dI) vwCl (w1 ++ w2) H → va_D (fun q : Nat => s.heap.size ≤ q) (w1 ++ w2) → va_S (fun q : Nat => s.heap.size ≤ q) s.heap H locs → lv_has ls 4 [(3, .int x3), (2, .ref a2), (1, .ref a1), (0, .ref b)] → W p l e room_1 s m #[Value.ref b] below meth c H locs (cells + 18) (slots + 1522) (lw_Z below #[Value.ref b] s) (F0 m 1615 ls [])) : W p l e room_1 s m #[Value.ref b] below meth c H locs cells slots (lw_Z below #[Value.ref b] s) (F0 m 1413 ls []) := by
  obtain ⟨hx, hb, hr, hml, hown, hts, hXs, hbl, hlocks, hgv⟩ := id C0
  have hown : s.vm.findClass RL = some m.cls := hown
  have hA : ∀ q : Nat, s.heap.size ≤ q → (fun q : Nat => s.heap.size ≤ q) q := fun _ h => h
  have hbA : ¬ (fun q : Nat => s.heap.size ≤ q) b := Nat.not_le.mpr hbl
  refine lv_aload_n hx hb dL_law_1413 rfl (lv_at hl 2 rfl) ?_
  refine lv_aload_n hx hb dL_law_1414 rfl (lv_at hl 3 rfl) ?_
  refine lv_iload_n hx hb dL_law_1415 rfl (lv_at hl 0 rfl) ?_
  refine lv_iconst (v := 1) hx hb dL_law_1416 (by decide) ?_
  refine lv_iadd hx hb dL_law_1417 ?_
  refine lv_topi (fun r1 h2 => ?_)
  have f3 : r1.toInt = x3.toInt + 1 := z_iadd h2 rfl (show Int32.toInt 1 = 1 from by decide) (by omega) (by omega)
  refine va_sld hx hb hXs hbl hbA hS (z_in rfl (by omega) (by omega)) dL_law_1418 ?_
  refine lv_topi (fun a4 h5 => ?_)
  refine f_fini (va_runV (As := [.int a4]) (rest := []) ⟨hx, hb, hml, hown, hts⟩ (q_X8_back l dC dI cB cI cJ cZ cP cQ adK adV q0 a1 H.size w1 a4 I1) (cwV 1 hts gT_X8_back rfl rfl rfl (by decide +kernel) ⟨Nat.le_of_ble_eq_true rfl, Nat.le_of_ble_eq_true rfl⟩) (f_pV (ci := 8) hE hS hA hK hP hD hX rfl (IX_recv I1)) rfl rfl hl.1 rfl (lv_room (Nat.le_of_ble_eq_true rfl)) dL_law_1419 ⟨by show _ + 0 ≤ 600000; omega, by show _ + 0 ≤ 7302250; omega⟩) hP hD hS hA (fun r6 w1 H locs hp hP hD hS => ?_)
  obtain ⟨I1, h7⟩ := hp
  refine lv_pop hx hb dL_law_1422 rfl ?_
  refine lv_aload_n hx hb dL_law_1423 rfl (lv_at hl 1 rfl) ?_
  refine lv_aload_n hx hb dL_law_1424 rfl (lv_at hl 3 rfl) ?_
  refine lv_iload_n hx hb dL_law_1425 rfl (lv_at hl 0 rfl) ?_
  refine lv_iconst (v := 1) hx hb dL_law_1426 (by decide) ?_
  refine lv_iadd hx hb dL_law_1427 ?_
  refine lv_topi (fun r8 h9 => ?_)
  have f10 : r8.toInt = x3.toInt + 1 := z_iadd h9 rfl (show Int32.toInt 1 = 1 from by decide) (by omega) (by omega)
  refine va_sld hx hb hXs hbl hbA hS (z_in rfl (by omega) (by omega)) dL_law_1428 ?_
  refine lv_topi (fun a11 h12 => ?_)
  have hP : va_P (dC, dI) vwCl (w2 ++ w1) H := f_Pm List.perm_append_comm hP
  have hD : va_D (fun q : Nat => s.heap.size ≤ q) (w2 ++ w1) := f_Dm List.perm_append_comm hD
  refine f_fini (va_runV (As := [.int a11]) (rest := []) ⟨hx, hb, hml, hown, hts⟩ (q_X9_back l dC dI cB cI cJ cZ cP cQ adK adV q0 a2 H.size w2 a11 I2) (cwV 1 hts gT_X9_back rfl rfl rfl (by decide +kernel) ⟨Nat.le_of_ble_eq_true rfl, Nat.le_of_ble_eq_true rfl⟩) (f_pV (ci := 9) hE hS hA hK hP hD hX rfl (IM_recv I2)) rfl rfl hl.1 rfl (lv_room (Nat.le_of_ble_eq_true rfl)) dL_law_1429 ⟨by show _ + 0 ≤ 600000; omega, by show _ + 0 ≤ 7302250; omega⟩) hP hD hS hA (fun r13 w2 H locs hp hP hD hS => ?_)
  obtain ⟨I2, h14⟩ := hp
  have hP : va_P (dC, dI) vwCl (w1 ++ w2) H := f_Pm List.perm_append_comm hP
  have hD : va_D (fun q : Nat => s.heap.size ≤ q) (w1 ++ w2) := f_Dm List.perm_append_comm hD
  refine lv_pop hx hb dL_law_1432 rfl ?_
  refine lv_goto (tgt := 1615) hx hb dL_law_1433 (by decide) ?_
  refine W.widen (k := cells + 18) (n := slots + 1522) (by omega) (by omega) ?_
  exact kk w1 w2 H locs ls I1 I2 hP hD hS (lv_sub hl [0, 1, 2, 3] rfl)
set_option maxHeartbeats 8000000 in
set_option maxRecDepth 100000 in
theorem law_case40 {p : Program} {e : Env} {s : State} {m : MethodId} {below : List Frame} {meth : Method} {c : Code} {b L : Nat} {xs : Nat → Int32} (l : Launch) (dC : Nat → ClassId) (dI : Nat → Nat → Nat) (cB cI cJ cZ cP cQ : ClassId) (adK adV : Nat → Nat) (q0 : Option Nat) (a1 a2 : Nat) (x3 : Int32) (C0 : lw_At p s m meth c b L xs) (hL : L ≤ 3072) (hK : va_K (dC, dI) vwCl (zT cB cI cJ cZ cP cQ) s) (hX : zX zNW zAO s) (hE : zE adK adV q0 (fun q : Nat => s.heap.size ≤ q) s s.heap) (i cells slots : Nat) (hi : x3.toInt = i) (hiL : i + 6 ≤ L) (hc : cells + 18 ≤ 600000) (hs : slots + 1522 ≤ 7302250) (w1 w2 : va_W) (I1 : IX cB cI cJ cZ cP cQ a1 w1) (I2 : IM cB cI cJ cZ cP cQ a2 w2) (H : Heap) (locs : List Loc) (hP : va_P (dC, dI) vwCl (w1 ++ w2) H) (hD : va_D (fun q : Nat => s.heap.size ≤ q) (w1 ++ w2)) (hS : va_S (fun q : Nat => s.heap.size ≤ q) s.heap H locs) (ls : Array Slot) (hl : lv_has ls 4 [(3, .int x3), (2, .ref a2), (1, .ref a1), (0, .ref b)]) (kk : ∀ (w1 w2 : va_W) (H : Heap) (locs : List Loc) (ls : Array Slot), IX cB cI cJ cZ cP cQ a1 w1 → IM cB cI cJ cZ cP cQ a2 w2 → va_P (dC, dI) vwCl (w1 ++ w2) H → va_D (fun q : Nat => s.heap.size ≤ q) (w1 ++ w2) → va_S (fun q : Nat => s.heap.size ≤ q) s.heap H locs → lv_has ls 4 [(3, .int x3), (2, .ref a2), (1, .ref a1), (0, .ref b)] → W p l e room_1 s m #[Value.ref b] below meth c H locs (cells + 18) (slots + 1522) (lw_Z below #[Value.ref b] s) (F0 m 1615 ls [])) : W p l e room_1 s m #[Value.ref b] below meth c H locs cells slots (lw_Z below #[Value.ref b] s) (F0 m 1436 ls []) := by
  obtain ⟨hx, hb, hr, hml, hown, hts, hXs, hbl, hlocks, hgv⟩ := id C0
  have hown : s.vm.findClass RL = some m.cls := hown
  have hA : ∀ q : Nat, s.heap.size ≤ q → (fun q : Nat => s.heap.size ≤ q) q := fun _ h => h
  have hbA : ¬ (fun q : Nat => s.heap.size ≤ q) b := Nat.not_le.mpr hbl
  refine lv_aload_n hx hb dL_law_1436 rfl (lv_at hl 2 rfl) ?_
  refine lv_aload_n hx hb dL_law_1437 rfl (lv_at hl 3 rfl) ?_
  refine lv_iload_n hx hb dL_law_1438 rfl (lv_at hl 0 rfl) ?_
  refine lv_iconst (v := 1) hx hb dL_law_1439 (by decide) ?_
  refine lv_iadd hx hb dL_law_1440 ?_
  refine lv_topi (fun r1 h2 => ?_)
  have f3 : r1.toInt = x3.toInt + 1 := z_iadd h2 rfl (show Int32.toInt 1 = 1 from by decide) (by omega) (by omega)
  refine va_sld hx hb hXs hbl hbA hS (z_in rfl (by omega) (by omega)) dL_law_1441 ?_
  refine lv_topi (fun a4 h5 => ?_)
  refine lv_aload_n hx hb dL_law_1442 rfl (lv_at hl 3 rfl) ?_
  refine lv_iload_n hx hb dL_law_1443 rfl (lv_at hl 0 rfl) ?_
  refine lv_iconst (v := 2) hx hb dL_law_1444 (by decide) ?_
  refine lv_iadd hx hb dL_law_1445 ?_
  refine lv_topi (fun r6 h7 => ?_)
  have f8 : r6.toInt = x3.toInt + 2 := z_iadd h7 rfl (show Int32.toInt 2 = 2 from by decide) (by omega) (by omega)
  refine va_sld hx hb hXs hbl hbA hS (z_in rfl (by omega) (by omega)) dL_law_1446 ?_
  refine lv_topi (fun a9 h10 => ?_)
  refine lv_aload_n hx hb dL_law_1447 rfl (lv_at hl 3 rfl) ?_
  refine lv_iload_n hx hb dL_law_1448 rfl (lv_at hl 0 rfl) ?_
  refine lv_iconst (v := 3) hx hb dL_law_1449 (by decide) ?_
  refine lv_iadd hx hb dL_law_1450 ?_
  refine lv_topi (fun r11 h12 => ?_)
  have f13 : r11.toInt = x3.toInt + 3 := z_iadd h12 rfl (show Int32.toInt 3 = 3 from by decide) (by omega) (by omega)
  refine va_sld hx hb hXs hbl hbA hS (z_in rfl (by omega) (by omega)) dL_law_1451 ?_
  refine lv_topi (fun a14 h15 => ?_)
  refine f_fini (va_runV (As := [.int a4, .int a9, .int a14]) (rest := []) ⟨hx, hb, hml, hown, hts⟩ (q_X8_row l dC dI cB cI cJ cZ cP cQ adK adV q0 a1 H.size w1 a4 a9 a14 I1) (cwV 3 hts gT_X8_row rfl rfl rfl (by decide +kernel) ⟨Nat.le_of_ble_eq_true rfl, Nat.le_of_ble_eq_true rfl⟩) (f_pV (ci := 8) hE hS hA hK hP hD hX rfl (IX_recv I1)) rfl rfl hl.1 rfl (lv_room (Nat.le_of_ble_eq_true rfl)) dL_law_1452 ⟨by show _ + 0 ≤ 600000; omega, by show _ + 0 ≤ 7302250; omega⟩) hP hD hS hA (fun r16 w1 H locs hp hP hD hS => ?_)
  obtain ⟨I1, h17⟩ := hp
  refine lv_pop hx hb dL_law_1455 rfl ?_
  refine lv_aload_n hx hb dL_law_1456 rfl (lv_at hl 1 rfl) ?_
  refine lv_aload_n hx hb dL_law_1457 rfl (lv_at hl 3 rfl) ?_
  refine lv_iload_n hx hb dL_law_1458 rfl (lv_at hl 0 rfl) ?_
  refine lv_iconst (v := 1) hx hb dL_law_1459 (by decide) ?_
  refine lv_iadd hx hb dL_law_1460 ?_
  refine lv_topi (fun r18 h19 => ?_)
  have f20 : r18.toInt = x3.toInt + 1 := z_iadd h19 rfl (show Int32.toInt 1 = 1 from by decide) (by omega) (by omega)
  refine va_sld hx hb hXs hbl hbA hS (z_in rfl (by omega) (by omega)) dL_law_1461 ?_
  refine lv_topi (fun a21 h22 => ?_)
  refine lv_aload_n hx hb dL_law_1462 rfl (lv_at hl 3 rfl) ?_
  refine lv_iload_n hx hb dL_law_1463 rfl (lv_at hl 0 rfl) ?_
  refine lv_iconst (v := 2) hx hb dL_law_1464 (by decide) ?_
  refine lv_iadd hx hb dL_law_1465 ?_
  refine lv_topi (fun r23 h24 => ?_)
  have f25 : r23.toInt = x3.toInt + 2 := z_iadd h24 rfl (show Int32.toInt 2 = 2 from by decide) (by omega) (by omega)
  refine va_sld hx hb hXs hbl hbA hS (z_in rfl (by omega) (by omega)) dL_law_1466 ?_
  refine lv_topi (fun a26 h27 => ?_)
  refine lv_aload_n hx hb dL_law_1467 rfl (lv_at hl 3 rfl) ?_
  refine lv_iload_n hx hb dL_law_1468 rfl (lv_at hl 0 rfl) ?_
  refine lv_iconst (v := 3) hx hb dL_law_1469 (by decide) ?_
  refine lv_iadd hx hb dL_law_1470 ?_
  refine lv_topi (fun r28 h29 => ?_)
  have f30 : r28.toInt = x3.toInt + 3 := z_iadd h29 rfl (show Int32.toInt 3 = 3 from by decide) (by omega) (by omega)
  refine va_sld hx hb hXs hbl hbA hS (z_in rfl (by omega) (by omega)) dL_law_1471 ?_
  refine lv_topi (fun a31 h32 => ?_)
  have hP : va_P (dC, dI) vwCl (w2 ++ w1) H := f_Pm List.perm_append_comm hP
  have hD : va_D (fun q : Nat => s.heap.size ≤ q) (w2 ++ w1) := f_Dm List.perm_append_comm hD
  refine f_fini (va_runV (As := [.int a21, .int a26, .int a31]) (rest := []) ⟨hx, hb, hml, hown, hts⟩ (q_X9_row l dC dI cB cI cJ cZ cP cQ adK adV q0 a2 H.size w2 a21 a26 a31 I2) (cwV 3 hts gT_X9_row rfl rfl rfl (by decide +kernel) ⟨Nat.le_of_ble_eq_true rfl, Nat.le_of_ble_eq_true rfl⟩) (f_pV (ci := 9) hE hS hA hK hP hD hX rfl (IM_recv I2)) rfl rfl hl.1 rfl (lv_room (Nat.le_of_ble_eq_true rfl)) dL_law_1472 ⟨by show _ + 0 ≤ 600000; omega, by show _ + 0 ≤ 7302250; omega⟩) hP hD hS hA (fun r33 w2 H locs hp hP hD hS => ?_)
  obtain ⟨I2, h34⟩ := hp
  have hP : va_P (dC, dI) vwCl (w1 ++ w2) H := f_Pm List.perm_append_comm hP
  have hD : va_D (fun q : Nat => s.heap.size ≤ q) (w1 ++ w2) := f_Dm List.perm_append_comm hD
  refine lv_pop hx hb dL_law_1475 rfl ?_
  refine lv_goto (tgt := 1615) hx hb dL_law_1476 (by decide) ?_
  refine W.widen (k := cells + 18) (n := slots + 1522) (by omega) (by omega) ?_
  exact kk w1 w2 H locs ls I1 I2 hP hD hS (lv_sub hl [0, 1, 2, 3] rfl)
set_option maxHeartbeats 8000000 in
set_option maxRecDepth 100000 in
theorem law_case41 {p : Program} {e : Env} {s : State} {m : MethodId} {below : List Frame} {meth : Method} {c : Code} {b L : Nat} {xs : Nat → Int32} (l : Launch) (dC : Nat → ClassId) (dI : Nat → Nat → Nat) (cB cI cJ cZ cP cQ : ClassId) (adK adV : Nat → Nat) (q0 : Option Nat) (a1 a2 : Nat) (x3 : Int32) (C0 : lw_At p s m meth c b L xs) (hL : L ≤ 3072) (hK : va_K (dC, dI) vwCl (zT cB cI cJ cZ cP cQ) s) (hX : zX zNW zAO s) (hE : zE adK adV q0 (fun q : Nat => s.heap.size ≤ q) s s.heap) (i cells slots : Nat) (hi : x3.toInt = i) (hiL : i + 6 ≤ L) (hc : cells + 18 ≤ 600000) (hs : slots + 1522 ≤ 7302250) (w1 w2 : va_W) (I1 : IX cB cI cJ cZ cP cQ a1 w1) (I2 : IM cB cI cJ cZ cP cQ a2 w2) (H : Heap) (locs : List Loc) (hP : va_P (dC, dI) vwCl (w1 ++ w2) H) (hD : va_D (fun q : Nat => s.heap.size ≤ q) (w1 ++ w2)) (hS : va_S (fun q : Nat => s.heap.size ≤ q) s.heap H locs) (ls : Array Slot) (hl : lv_has ls 4 [(3, .int x3), (2, .ref a2), (1, .ref a1), (0, .ref b)]) (kk : ∀ (w1 w2 : va_W) (H : Heap) (locs : List Loc) (ls : Array Slot), IX cB cI cJ cZ cP cQ a1 w1 → IM cB cI cJ cZ cP cQ a2 w2 → va_P (dC, dI) vwCl (w1 ++ w2) H → va_D (fun q : Nat => s.heap.size ≤ q) (w1 ++ w2) → va_S (fun q : Nat => s.heap.size ≤ q) s.heap H locs → lv_has ls 4 [(3, .int x3), (2, .ref a2), (1, .ref a1), (0, .ref b)] → W p l e room_1 s m #[Value.ref b] below meth c H locs (cells + 18) (slots + 1522) (lw_Z below #[Value.ref b] s) (F0 m 1615 ls [])) : W p l e room_1 s m #[Value.ref b] below meth c H locs cells slots (lw_Z below #[Value.ref b] s) (F0 m 1479 ls []) := by
  obtain ⟨hx, hb, hr, hml, hown, hts, hXs, hbl, hlocks, hgv⟩ := id C0
  have hown : s.vm.findClass RL = some m.cls := hown
  have hA : ∀ q : Nat, s.heap.size ≤ q → (fun q : Nat => s.heap.size ≤ q) q := fun _ h => h
  have hbA : ¬ (fun q : Nat => s.heap.size ≤ q) b := Nat.not_le.mpr hbl
  have hk0 := hts (.constantLong RL 187 4294967295) (by decide +kernel)
  refine lv_aload_n hx hb dL_law_1479 rfl (lv_at hl 2 rfl) ?_
  refine lv_aload_n hx hb dL_law_1480 rfl (lv_at hl 3 rfl) ?_
  refine lv_iload_n hx hb dL_law_1481 rfl (lv_at hl 0 rfl) ?_
  refine lv_iconst (v := 1) hx hb dL_law_1482 (by decide) ?_
  refine lv_iadd hx hb dL_law_1483 ?_
  refine lv_topi (fun r1 h2 => ?_)
  have f3 : r1.toInt = x3.toInt + 1 := z_iadd h2 rfl (show Int32.toInt 1 = 1 from by decide) (by omega) (by omega)
  refine va_sld hx hb hXs hbl hbA hS (z_in rfl (by omega) (by omega)) dL_law_1484 ?_
  refine lv_topi (fun a4 h5 => ?_)
  refine lv_aload_n hx hb dL_law_1485 rfl (lv_at hl 3 rfl) ?_
  refine lv_iload_n hx hb dL_law_1486 rfl (lv_at hl 0 rfl) ?_
  refine lv_iconst (v := 2) hx hb dL_law_1487 (by decide) ?_
  refine lv_iadd hx hb dL_law_1488 ?_
  refine lv_topi (fun r6 h7 => ?_)
  have f8 : r6.toInt = x3.toInt + 2 := z_iadd h7 rfl (show Int32.toInt 2 = 2 from by decide) (by omega) (by omega)
  refine va_sld hx hb hXs hbl hbA hS (z_in rfl (by omega) (by omega)) dL_law_1489 ?_
  refine lv_topi (fun a9 h10 => ?_)
  refine lv_aload_n hx hb dL_law_1490 rfl (lv_at hl 3 rfl) ?_
  refine lv_iload_n hx hb dL_law_1491 rfl (lv_at hl 0 rfl) ?_
  refine lv_iconst (v := 3) hx hb dL_law_1492 (by decide) ?_
  refine lv_iadd hx hb dL_law_1493 ?_
  refine lv_topi (fun r11 h12 => ?_)
  have f13 : r11.toInt = x3.toInt + 3 := z_iadd h12 rfl (show Int32.toInt 3 = 3 from by decide) (by omega) (by omega)
  refine va_sld hx hb hXs hbl hbA hS (z_in rfl (by omega) (by omega)) dL_law_1494 ?_
  refine lv_topi (fun a14 h15 => ?_)
  refine lv_i2l hx hb dL_law_1495 rfl ?_
  have f16 : -2147483648 ≤ a14.toInt ∧ a14.toInt < 2147483648 := z_rngI rfl
  refine lv_topl (fun r17 h18 => ?_)
  have f19 : r17.toInt = a14.toInt := z_i2lT h18 rfl
  refine lv_bipush (v := 32) hx hb dL_law_1496 (by decide) ?_
  refine lv_lshl hx hb dL_law_1498 rfl ?_
  refine lv_topl (fun r20 _ => ?_)
  refine lv_aload_n hx hb dL_law_1499 rfl (lv_at hl 3 rfl) ?_
  refine lv_iload_n hx hb dL_law_1500 rfl (lv_at hl 0 rfl) ?_
  refine lv_iconst (v := 4) hx hb dL_law_1501 (by decide) ?_
  refine lv_iadd hx hb dL_law_1502 ?_
  refine lv_topi (fun r21 h22 => ?_)
  have f23 : r21.toInt = x3.toInt + 4 := z_iadd h22 rfl (show Int32.toInt 4 = 4 from by decide) (by omega) (by omega)
  refine va_sld hx hb hXs hbl hbA hS (z_in rfl (by omega) (by omega)) dL_law_1503 ?_
  refine lv_topi (fun a24 h25 => ?_)
  refine lv_i2l hx hb dL_law_1504 rfl ?_
  have f26 : -2147483648 ≤ a24.toInt ∧ a24.toInt < 2147483648 := z_rngI rfl
  refine lv_topl (fun r27 h28 => ?_)
  have f29 : r27.toInt = a24.toInt := z_i2lT h28 rfl
  refine lv_ldc2 hx hb hown hk0 dL_law_1505 ?_
  refine lv_land hx hb dL_law_1508 ?_
  refine lv_topl (fun r30 _ => ?_)
  refine lv_lor hx hb dL_law_1509 ?_
  refine lv_topl (fun r31 _ => ?_)
  refine f_fini (va_runV (As := [.int a4, .int a9, .long r31]) (rest := []) ⟨hx, hb, hml, hown, hts⟩ (q_X8_write l dC dI cB cI cJ cZ cP cQ adK adV q0 a1 H.size w1 a4 a9 r31 I1) (cwV 3 hts gT_X8_write rfl rfl rfl (by decide +kernel) ⟨Nat.le_of_ble_eq_true rfl, Nat.le_of_ble_eq_true rfl⟩) (f_pV (ci := 8) hE hS hA hK hP hD hX rfl (IX_recv I1)) rfl rfl hl.1 rfl (lv_room (Nat.le_of_ble_eq_true rfl)) dL_law_1510 ⟨by show _ + 0 ≤ 600000; omega, by show _ + 0 ≤ 7302250; omega⟩) hP hD hS hA (fun r32 w1 H locs hp hP hD hS => ?_)
  obtain ⟨I1, h33⟩ := hp
  refine lv_pop hx hb dL_law_1513 rfl ?_
  refine lv_aload_n hx hb dL_law_1514 rfl (lv_at hl 1 rfl) ?_
  refine lv_aload_n hx hb dL_law_1515 rfl (lv_at hl 3 rfl) ?_
  refine lv_iload_n hx hb dL_law_1516 rfl (lv_at hl 0 rfl) ?_
  refine lv_iconst (v := 1) hx hb dL_law_1517 (by decide) ?_
  refine lv_iadd hx hb dL_law_1518 ?_
  refine lv_topi (fun r34 h35 => ?_)
  have f36 : r34.toInt = x3.toInt + 1 := z_iadd h35 rfl (show Int32.toInt 1 = 1 from by decide) (by omega) (by omega)
  refine va_sld hx hb hXs hbl hbA hS (z_in rfl (by omega) (by omega)) dL_law_1519 ?_
  refine lv_topi (fun a37 h38 => ?_)
  refine lv_aload_n hx hb dL_law_1520 rfl (lv_at hl 3 rfl) ?_
  refine lv_iload_n hx hb dL_law_1521 rfl (lv_at hl 0 rfl) ?_
  refine lv_iconst (v := 2) hx hb dL_law_1522 (by decide) ?_
  refine lv_iadd hx hb dL_law_1523 ?_
  refine lv_topi (fun r39 h40 => ?_)
  have f41 : r39.toInt = x3.toInt + 2 := z_iadd h40 rfl (show Int32.toInt 2 = 2 from by decide) (by omega) (by omega)
  refine va_sld hx hb hXs hbl hbA hS (z_in rfl (by omega) (by omega)) dL_law_1524 ?_
  refine lv_topi (fun a42 h43 => ?_)
  refine lv_aload_n hx hb dL_law_1525 rfl (lv_at hl 3 rfl) ?_
  refine lv_iload_n hx hb dL_law_1526 rfl (lv_at hl 0 rfl) ?_
  refine lv_iconst (v := 3) hx hb dL_law_1527 (by decide) ?_
  refine lv_iadd hx hb dL_law_1528 ?_
  refine lv_topi (fun r44 h45 => ?_)
  have f46 : r44.toInt = x3.toInt + 3 := z_iadd h45 rfl (show Int32.toInt 3 = 3 from by decide) (by omega) (by omega)
  refine va_sld hx hb hXs hbl hbA hS (z_in rfl (by omega) (by omega)) dL_law_1529 ?_
  refine lv_topi (fun a47 h48 => ?_)
  refine lv_i2l hx hb dL_law_1530 rfl ?_
  have f49 : -2147483648 ≤ a47.toInt ∧ a47.toInt < 2147483648 := z_rngI rfl
  refine lv_topl (fun r50 h51 => ?_)
  have f52 : r50.toInt = a47.toInt := z_i2lT h51 rfl
  refine lv_bipush (v := 32) hx hb dL_law_1531 (by decide) ?_
  refine lv_lshl hx hb dL_law_1533 rfl ?_
  refine lv_topl (fun r53 _ => ?_)
  refine lv_aload_n hx hb dL_law_1534 rfl (lv_at hl 3 rfl) ?_
  refine lv_iload_n hx hb dL_law_1535 rfl (lv_at hl 0 rfl) ?_
  refine lv_iconst (v := 4) hx hb dL_law_1536 (by decide) ?_
  refine lv_iadd hx hb dL_law_1537 ?_
  refine lv_topi (fun r54 h55 => ?_)
  have f56 : r54.toInt = x3.toInt + 4 := z_iadd h55 rfl (show Int32.toInt 4 = 4 from by decide) (by omega) (by omega)
  refine va_sld hx hb hXs hbl hbA hS (z_in rfl (by omega) (by omega)) dL_law_1538 ?_
  refine lv_topi (fun a57 h58 => ?_)
  refine lv_i2l hx hb dL_law_1539 rfl ?_
  have f59 : -2147483648 ≤ a57.toInt ∧ a57.toInt < 2147483648 := z_rngI rfl
  refine lv_topl (fun r60 h61 => ?_)
  have f62 : r60.toInt = a57.toInt := z_i2lT h61 rfl
  refine lv_ldc2 hx hb hown hk0 dL_law_1540 ?_
  refine lv_land hx hb dL_law_1543 ?_
  refine lv_topl (fun r63 _ => ?_)
  refine lv_lor hx hb dL_law_1544 ?_
  refine lv_topl (fun r64 _ => ?_)
  have hP : va_P (dC, dI) vwCl (w2 ++ w1) H := f_Pm List.perm_append_comm hP
  have hD : va_D (fun q : Nat => s.heap.size ≤ q) (w2 ++ w1) := f_Dm List.perm_append_comm hD
  refine f_fini (va_runV (As := [.int a37, .int a42, .long r64]) (rest := []) ⟨hx, hb, hml, hown, hts⟩ (q_X9_write l dC dI cB cI cJ cZ cP cQ adK adV q0 a2 H.size w2 a37 a42 r64 I2) (cwV 3 hts gT_X9_write rfl rfl rfl (by decide +kernel) ⟨Nat.le_of_ble_eq_true rfl, Nat.le_of_ble_eq_true rfl⟩) (f_pV (ci := 9) hE hS hA hK hP hD hX rfl (IM_recv I2)) rfl rfl hl.1 rfl (lv_room (Nat.le_of_ble_eq_true rfl)) dL_law_1545 ⟨by show _ + 0 ≤ 600000; omega, by show _ + 0 ≤ 7302250; omega⟩) hP hD hS hA (fun r65 w2 H locs hp hP hD hS => ?_)
  obtain ⟨I2, h66⟩ := hp
  have hP : va_P (dC, dI) vwCl (w1 ++ w2) H := f_Pm List.perm_append_comm hP
  have hD : va_D (fun q : Nat => s.heap.size ≤ q) (w1 ++ w2) := f_Dm List.perm_append_comm hD
  refine lv_pop hx hb dL_law_1548 rfl ?_
  refine lv_goto (tgt := 1615) hx hb dL_law_1549 (by decide) ?_
  refine W.widen (k := cells + 18) (n := slots + 1522) (by omega) (by omega) ?_
  exact kk w1 w2 H locs ls I1 I2 hP hD hS (lv_sub hl [0, 1, 2, 3] rfl)
set_option maxHeartbeats 8000000 in
set_option maxRecDepth 100000 in
theorem law_case42 {p : Program} {e : Env} {s : State} {m : MethodId} {below : List Frame} {meth : Method} {c : Code} {b L : Nat} {xs : Nat → Int32} (l : Launch) (dC : Nat → ClassId) (dI : Nat → Nat → Nat) (cB cI cJ cZ cP cQ : ClassId) (adK adV : Nat → Nat) (q0 : Option Nat) (a1 a2 : Nat) (x3 : Int32) (C0 : lw_At p s m meth c b L xs) (hL : L ≤ 3072) (hK : va_K (dC, dI) vwCl (zT cB cI cJ cZ cP cQ) s) (hX : zX zNW zAO s) (hE : zE adK adV q0 (fun q : Nat => s.heap.size ≤ q) s s.heap) (i cells slots : Nat) (hi : x3.toInt = i) (hiL : i + 6 ≤ L) (hc : cells + 18 ≤ 600000) (hs : slots + 1522 ≤ 7302250) (w1 w2 : va_W) (I1 : IX cB cI cJ cZ cP cQ a1 w1) (I2 : IM cB cI cJ cZ cP cQ a2 w2) (H : Heap) (locs : List Loc) (hP : va_P (dC, dI) vwCl (w1 ++ w2) H) (hD : va_D (fun q : Nat => s.heap.size ≤ q) (w1 ++ w2)) (hS : va_S (fun q : Nat => s.heap.size ≤ q) s.heap H locs) (ls : Array Slot) (hl : lv_has ls 4 [(3, .int x3), (2, .ref a2), (1, .ref a1), (0, .ref b)]) (kk : ∀ (w1 w2 : va_W) (H : Heap) (locs : List Loc) (ls : Array Slot), IX cB cI cJ cZ cP cQ a1 w1 → IM cB cI cJ cZ cP cQ a2 w2 → va_P (dC, dI) vwCl (w1 ++ w2) H → va_D (fun q : Nat => s.heap.size ≤ q) (w1 ++ w2) → va_S (fun q : Nat => s.heap.size ≤ q) s.heap H locs → lv_has ls 4 [(3, .int x3), (2, .ref a2), (1, .ref a1), (0, .ref b)] → W p l e room_1 s m #[Value.ref b] below meth c H locs (cells + 18) (slots + 1522) (lw_Z below #[Value.ref b] s) (F0 m 1615 ls [])) : W p l e room_1 s m #[Value.ref b] below meth c H locs cells slots (lw_Z below #[Value.ref b] s) (F0 m 1552 ls []) := by
  obtain ⟨hx, hb, hr, hml, hown, hts, hXs, hbl, hlocks, hgv⟩ := id C0
  have hown : s.vm.findClass RL = some m.cls := hown
  have hA : ∀ q : Nat, s.heap.size ≤ q → (fun q : Nat => s.heap.size ≤ q) q := fun _ h => h
  have hbA : ¬ (fun q : Nat => s.heap.size ≤ q) b := Nat.not_le.mpr hbl
  refine lv_aload_n hx hb dL_law_1552 rfl (lv_at hl 2 rfl) ?_
  refine lv_aload_n hx hb dL_law_1553 rfl (lv_at hl 3 rfl) ?_
  refine lv_iload_n hx hb dL_law_1554 rfl (lv_at hl 0 rfl) ?_
  refine lv_iconst (v := 1) hx hb dL_law_1555 (by decide) ?_
  refine lv_iadd hx hb dL_law_1556 ?_
  refine lv_topi (fun r1 h2 => ?_)
  have f3 : r1.toInt = x3.toInt + 1 := z_iadd h2 rfl (show Int32.toInt 1 = 1 from by decide) (by omega) (by omega)
  refine va_sld hx hb hXs hbl hbA hS (z_in rfl (by omega) (by omega)) dL_law_1557 ?_
  refine lv_topi (fun a4 h5 => ?_)
  refine lv_aload_n hx hb dL_law_1558 rfl (lv_at hl 3 rfl) ?_
  refine lv_iload_n hx hb dL_law_1559 rfl (lv_at hl 0 rfl) ?_
  refine lv_iconst (v := 2) hx hb dL_law_1560 (by decide) ?_
  refine lv_iadd hx hb dL_law_1561 ?_
  refine lv_topi (fun r6 h7 => ?_)
  have f8 : r6.toInt = x3.toInt + 2 := z_iadd h7 rfl (show Int32.toInt 2 = 2 from by decide) (by omega) (by omega)
  refine va_sld hx hb hXs hbl hbA hS (z_in rfl (by omega) (by omega)) dL_law_1562 ?_
  refine lv_topi (fun a9 h10 => ?_)
  refine lv_aload_n hx hb dL_law_1563 rfl (lv_at hl 3 rfl) ?_
  refine lv_iload_n hx hb dL_law_1564 rfl (lv_at hl 0 rfl) ?_
  refine lv_iconst (v := 3) hx hb dL_law_1565 (by decide) ?_
  refine lv_iadd hx hb dL_law_1566 ?_
  refine lv_topi (fun r11 h12 => ?_)
  have f13 : r11.toInt = x3.toInt + 3 := z_iadd h12 rfl (show Int32.toInt 3 = 3 from by decide) (by omega) (by omega)
  refine va_sld hx hb hXs hbl hbA hS (z_in rfl (by omega) (by omega)) dL_law_1567 ?_
  refine lv_topi (fun a14 h15 => ?_)
  refine lv_aload_n hx hb dL_law_1568 rfl (lv_at hl 3 rfl) ?_
  refine lv_iload_n hx hb dL_law_1569 rfl (lv_at hl 0 rfl) ?_
  refine lv_iconst (v := 4) hx hb dL_law_1570 (by decide) ?_
  refine lv_iadd hx hb dL_law_1571 ?_
  refine lv_topi (fun r16 h17 => ?_)
  have f18 : r16.toInt = x3.toInt + 4 := z_iadd h17 rfl (show Int32.toInt 4 = 4 from by decide) (by omega) (by omega)
  refine va_sld hx hb hXs hbl hbA hS (z_in rfl (by omega) (by omega)) dL_law_1572 ?_
  refine lv_topi (fun a19 h20 => ?_)
  refine lv_aload_n hx hb dL_law_1573 rfl (lv_at hl 3 rfl) ?_
  refine lv_iload_n hx hb dL_law_1574 rfl (lv_at hl 0 rfl) ?_
  refine lv_iconst (v := 5) hx hb dL_law_1575 (by decide) ?_
  refine lv_iadd hx hb dL_law_1576 ?_
  refine lv_topi (fun r21 h22 => ?_)
  have f23 : r21.toInt = x3.toInt + 5 := z_iadd h22 rfl (show Int32.toInt 5 = 5 from by decide) (by omega) (by omega)
  refine va_sld hx hb hXs hbl hbA hS (z_in rfl (by omega) (by omega)) dL_law_1577 ?_
  refine lv_topi (fun a24 h25 => ?_)
  refine f_fini (va_runV (As := [.int a4, .int a9, .int a14, .int a19, .int a24]) (rest := []) ⟨hx, hb, hml, hown, hts⟩ (q_X8_paste l dC dI cB cI cJ cZ cP cQ adK adV q0 a1 H.size w1 a4 a9 a14 a19 a24 I1) (cwV 5 hts gT_X8_paste rfl rfl rfl (by decide +kernel) ⟨Nat.le_of_ble_eq_true rfl, Nat.le_of_ble_eq_true rfl⟩) (f_pV (ci := 8) hE hS hA hK hP hD hX rfl (IX_recv I1)) rfl rfl hl.1 rfl (lv_room (Nat.le_of_ble_eq_true rfl)) dL_law_1578 ⟨by show _ + 0 ≤ 600000; omega, by show _ + 0 ≤ 7302250; omega⟩) hP hD hS hA (fun r26 w1 H locs hp hP hD hS => ?_)
  obtain ⟨I1, h27⟩ := hp
  refine lv_pop hx hb dL_law_1581 rfl ?_
  refine lv_aload_n hx hb dL_law_1582 rfl (lv_at hl 1 rfl) ?_
  refine lv_aload_n hx hb dL_law_1583 rfl (lv_at hl 3 rfl) ?_
  refine lv_iload_n hx hb dL_law_1584 rfl (lv_at hl 0 rfl) ?_
  refine lv_iconst (v := 1) hx hb dL_law_1585 (by decide) ?_
  refine lv_iadd hx hb dL_law_1586 ?_
  refine lv_topi (fun r28 h29 => ?_)
  have f30 : r28.toInt = x3.toInt + 1 := z_iadd h29 rfl (show Int32.toInt 1 = 1 from by decide) (by omega) (by omega)
  refine va_sld hx hb hXs hbl hbA hS (z_in rfl (by omega) (by omega)) dL_law_1587 ?_
  refine lv_topi (fun a31 h32 => ?_)
  refine lv_aload_n hx hb dL_law_1588 rfl (lv_at hl 3 rfl) ?_
  refine lv_iload_n hx hb dL_law_1589 rfl (lv_at hl 0 rfl) ?_
  refine lv_iconst (v := 2) hx hb dL_law_1590 (by decide) ?_
  refine lv_iadd hx hb dL_law_1591 ?_
  refine lv_topi (fun r33 h34 => ?_)
  have f35 : r33.toInt = x3.toInt + 2 := z_iadd h34 rfl (show Int32.toInt 2 = 2 from by decide) (by omega) (by omega)
  refine va_sld hx hb hXs hbl hbA hS (z_in rfl (by omega) (by omega)) dL_law_1592 ?_
  refine lv_topi (fun a36 h37 => ?_)
  refine lv_aload_n hx hb dL_law_1593 rfl (lv_at hl 3 rfl) ?_
  refine lv_iload_n hx hb dL_law_1594 rfl (lv_at hl 0 rfl) ?_
  refine lv_iconst (v := 3) hx hb dL_law_1595 (by decide) ?_
  refine lv_iadd hx hb dL_law_1596 ?_
  refine lv_topi (fun r38 h39 => ?_)
  have f40 : r38.toInt = x3.toInt + 3 := z_iadd h39 rfl (show Int32.toInt 3 = 3 from by decide) (by omega) (by omega)
  refine va_sld hx hb hXs hbl hbA hS (z_in rfl (by omega) (by omega)) dL_law_1597 ?_
  refine lv_topi (fun a41 h42 => ?_)
  refine lv_aload_n hx hb dL_law_1598 rfl (lv_at hl 3 rfl) ?_
  refine lv_iload_n hx hb dL_law_1599 rfl (lv_at hl 0 rfl) ?_
  refine lv_iconst (v := 4) hx hb dL_law_1600 (by decide) ?_
  refine lv_iadd hx hb dL_law_1601 ?_
  refine lv_topi (fun r43 h44 => ?_)
  have f45 : r43.toInt = x3.toInt + 4 := z_iadd h44 rfl (show Int32.toInt 4 = 4 from by decide) (by omega) (by omega)
  refine va_sld hx hb hXs hbl hbA hS (z_in rfl (by omega) (by omega)) dL_law_1602 ?_
  refine lv_topi (fun a46 h47 => ?_)
  refine lv_aload_n hx hb dL_law_1603 rfl (lv_at hl 3 rfl) ?_
  refine lv_iload_n hx hb dL_law_1604 rfl (lv_at hl 0 rfl) ?_
  refine lv_iconst (v := 5) hx hb dL_law_1605 (by decide) ?_
  refine lv_iadd hx hb dL_law_1606 ?_
  refine lv_topi (fun r48 h49 => ?_)
  have f50 : r48.toInt = x3.toInt + 5 := z_iadd h49 rfl (show Int32.toInt 5 = 5 from by decide) (by omega) (by omega)
  refine va_sld hx hb hXs hbl hbA hS (z_in rfl (by omega) (by omega)) dL_law_1607 ?_
  refine lv_topi (fun a51 h52 => ?_)
  have hP : va_P (dC, dI) vwCl (w2 ++ w1) H := f_Pm List.perm_append_comm hP
  have hD : va_D (fun q : Nat => s.heap.size ≤ q) (w2 ++ w1) := f_Dm List.perm_append_comm hD
  refine f_fini (va_runV (As := [.int a31, .int a36, .int a41, .int a46, .int a51]) (rest := []) ⟨hx, hb, hml, hown, hts⟩ (q_X9_paste l dC dI cB cI cJ cZ cP cQ adK adV q0 a2 H.size w2 a31 a36 a41 a46 a51 I2) (cwV 5 hts gT_X9_paste rfl rfl rfl (by decide +kernel) ⟨Nat.le_of_ble_eq_true rfl, Nat.le_of_ble_eq_true rfl⟩) (f_pV (ci := 9) hE hS hA hK hP hD hX rfl (IM_recv I2)) rfl rfl hl.1 rfl (lv_room (Nat.le_of_ble_eq_true rfl)) dL_law_1608 ⟨by show _ + 0 ≤ 600000; omega, by show _ + 0 ≤ 7302250; omega⟩) hP hD hS hA (fun r53 w2 H locs hp hP hD hS => ?_)
  obtain ⟨I2, h54⟩ := hp
  have hP : va_P (dC, dI) vwCl (w1 ++ w2) H := f_Pm List.perm_append_comm hP
  have hD : va_D (fun q : Nat => s.heap.size ≤ q) (w1 ++ w2) := f_Dm List.perm_append_comm hD
  refine lv_pop hx hb dL_law_1611 rfl ?_
  refine lv_goto (tgt := 1615) hx hb dL_law_1612 (by decide) ?_
  refine W.widen (k := cells + 18) (n := slots + 1522) (by omega) (by omega) ?_
  exact kk w1 w2 H locs ls I1 I2 hP hD hS (lv_sub hl [0, 1, 2, 3] rfl)
theorem z_aC {ty : FieldType} {args : Array Value} {s : State} (h : (Cond.arrayClass ty).before args s = true) : ∃ cA : ClassId, ArrOfT s cA ty ∧ s.vm.findClass ("[" ++ ty.toString) = some cA := by
  obtain ⟨cA, kA, comp, h1, h2, h3⟩ := Cond.arrayClass_spec h
  exact ⟨cA, fun n z => ⟨fun k h => (by cases h), kA, h2, comp, h3⟩, h1⟩
theorem z_aO {C : String} {args : Array Value} {s : State} (h : (Cond.arrayOver (.object C)).before args s = true) : ∃ cA : ClassId, ArrOfT s cA (.object C) ∧ va_RA s cA (.object C) := by
  obtain ⟨comp, cA, kA, hcomp, hidx, hk, hkind, hname⟩ := Cond.arrayOver_spec h
  exact ⟨cA, fun n z => ⟨fun k h => (by cases h), kA, hk, comp, hkind⟩, kA, comp, hk, hkind, hcomp, hname⟩
theorem z_tab (x : Int32) : ∃ j : Nat, j < 64 ∧ x &&& 63 = nI j ∧ (x &&& 63).toInt = j := by
  obtain ⟨j, hj, e⟩ := pk_andE x (m := 63) 6 (by decide)
  exact ⟨j, hj, e, by rw [e]; exact nI_toInt (by omega)⟩

set_option maxHeartbeats 8000000 in
set_option maxRecDepth 100000 in
theorem law_K {args : Array Value} {s : State} (hts : ∀ w ∈ lw_tbl, w.before args s = true) : ∃ (dC : Nat → ClassId) (dI : Nat → Nat → Nat) (cB cI cJ cZ cP cQ : ClassId), va_K (dC, dI) vwCl (zT cB cI cJ cZ cP cQ) s := by
  obtain ⟨c0, iS0, hKn0⟩ := u_known (C := RX0) (T := TX0) (N := 1) (n := 1) hts inX0 (hts (.instantiable RX0 1) (by decide +kernel))
  obtain ⟨c1, iS1, hKn1⟩ := u_known (C := RX1) (T := TX1) (N := 3) (n := 3) hts inX1 (hts (.instantiable RX1 3) (by decide +kernel))
  obtain ⟨c2, iS2, hKn2⟩ := u_known (C := RX2) (T := TX2) (N := 2) (n := 2) hts inX2 (hts (.instantiable RX2 2) (by decide +kernel))
  obtain ⟨c3, iS3, hKn3⟩ := u_known (C := RX3) (T := TX3) (N := 16) (n := 16) hts inX3 (hts (.instantiable RX3 16) (by decide +kernel))
  obtain ⟨c4, iS4, hKn4⟩ := u_known (C := RX4) (T := TX4) (N := 3) (n := 3) hts inX4 (hts (.instantiable RX4 3) (by decide +kernel))
  obtain ⟨c5, iS5, hKn5⟩ := u_known (C := RX5) (T := TX5) (N := 7) (n := 7) hts inX5 (hts (.instantiable RX5 7) (by decide +kernel))
  obtain ⟨c6, iS6, hKn6⟩ := u_known (C := RX6) (T := TX6) (N := 11) (n := 11) hts inX6 (hts (.instantiable RX6 11) (by decide +kernel))
  obtain ⟨c7, iS7, hKn7⟩ := u_known (C := RX7) (T := TX7) (N := 8) (n := 8) hts inX7 (hts (.instantiable RX7 8) (by decide +kernel))
  obtain ⟨c8, iS8, hKn8⟩ := u_known (C := RX8) (T := TX8) (N := 10) (n := 10) hts inX8 (hts (.instantiable RX8 10) (by decide +kernel))
  obtain ⟨c9, iS9, hKn9⟩ := u_known (C := RX9) (T := TX9) (N := 60) (n := 60) hts inX9 (hts (.instantiable RX9 60) (by decide +kernel))
  obtain ⟨cB, h1B, h2B⟩ := z_aC (hts (.arrayClass .byte) (by decide +kernel))
  obtain ⟨cI, h1I, h2I⟩ := z_aC (hts (.arrayClass .int) (by decide +kernel))
  obtain ⟨cJ, h1J, h2J⟩ := z_aC (hts (.arrayClass .long) (by decide +kernel))
  obtain ⟨cZ, h1Z, h2Z⟩ := z_aC (hts (.arrayClass .boolean) (by decide +kernel))
  obtain ⟨cP, h1P, h2P⟩ := z_aO (hts (.arrayOver (.object RX2)) (by decide +kernel))
  obtain ⟨cQ, h1Q, h2Q⟩ := z_aO (hts (.arrayOver (.object RX4)) (by decide +kernel))
  refine ⟨fun k => match k with | 0 => c0 | 1 => c1 | 2 => c2 | 3 => c3 | 4 => c4 | 5 => c5 | 6 => c6 | 7 => c7 | 8 => c8 | _ => c9, fun k => match k with | 0 => iS0 | 1 => iS1 | 2 => iS2 | 3 => iS3 | 4 => iS4 | 5 => iS5 | 6 => iS6 | 7 => iS7 | 8 => iS8 | _ => iS9, cB, cI, cJ, cZ, cP, cQ, ?_, ?_⟩
  · intro k q hq
    match k, hq with
    | 0, hq => cases hq; exact hKn0
    | 1, hq => cases hq; exact hKn1
    | 2, hq => cases hq; exact hKn2
    | 3, hq => cases hq; exact hKn3
    | 4, hq => cases hq; exact hKn4
    | 5, hq => cases hq; exact hKn5
    | 6, hq => cases hq; exact hKn6
    | 7, hq => cases hq; exact hKn7
    | 8, hq => cases hq; exact hKn8
    | 9, hq => cases hq; exact hKn9
    | k + 10, hq => simp [vwCl] at hq
  · intro k q hq
    match k, hq with
    | 0, hq => cases hq; exact ⟨h1B, h2B⟩
    | 1, hq => cases hq; exact ⟨h1I, h2I⟩
    | 2, hq => cases hq; exact ⟨h1J, h2J⟩
    | 3, hq => cases hq; exact ⟨h1Z, h2Z⟩
    | 4, hq => cases hq; exact ⟨h1P, h2P⟩
    | 5, hq => cases hq; exact ⟨h1Q, h2Q⟩
    | k + 6, hq => simp [zT] at hq
set_option maxHeartbeats 8000000 in
set_option maxRecDepth 100000 in
theorem law_X {args : Array Value} {s : State} (hts : ∀ w ∈ lw_tbl, w.before args s = true) : zX zNW zAO s := by
  refine ⟨fun q hq => va_Nw.of (A := args) rfl ?_, fun C hC => va_AO.of (A := args) ?_⟩
  · have h : ∀ q ∈ zNW, Cond.methodLinkNest q.1 q.2.1 q.2.2.1 q.2.2.2 ∈ lw_tbl := by decide +kernel
    exact hts _ (h q hq)
  · have h : ∀ C ∈ zAO, Cond.arrayOver (.object C) ∈ lw_tbl := by decide +kernel
    exact hts _ (h C hC)
set_option maxHeartbeats 8000000 in
set_option maxRecDepth 100000 in
theorem law_loop {p : Program} {e : Env} {s : State} {m : MethodId} {below : List Frame} {meth : Method} {c : Code} {b L : Nat} {xs : Nat → Int32} (l : Launch) (dC : Nat → ClassId) (dI : Nat → Nat → Nat) (cB cI cJ cZ cP cQ : ClassId) (adK adV : Nat → Nat) (q0 : Option Nat) (a1 a2 : Nat) (C0 : lw_At p s m meth c b L xs) (hL : L ≤ 3072) (hK : va_K (dC, dI) vwCl (zT cB cI cJ cZ cP cQ) s) (hX : zX zNW zAO s) (hE : zE adK adV q0 (fun q : Nat => s.heap.size ≤ q) s s.heap) : ∀ (n i : Nat) (x3 : Int32) (cells slots : Nat), L < n + i → x3.toInt = i → i ≤ L + 5 → cells + 3 * (L + 6 - i) ≤ 500000 → slots + 254 * (L + 6 - i) ≤ 7000000 → ∀ (w1 w2 : va_W), IX cB cI cJ cZ cP cQ a1 w1 → IM cB cI cJ cZ cP cQ a2 w2 → ∀ (H : Heap) (locs : List Loc), va_P (dC, dI) vwCl (w1 ++ w2) H → va_D (fun q : Nat => s.heap.size ≤ q) (w1 ++ w2) → va_S (fun q : Nat => s.heap.size ≤ q) s.heap H locs → ∀ (ls : Array Slot), lv_has ls 4 [(3, .int x3), (2, .ref a2), (1, .ref a1), (0, .ref b)] → W p l e room_1 s m #[Value.ref b] below meth c H locs cells slots (lw_Z below #[Value.ref b] s) (F0 m 18 ls []) := by
  obtain ⟨hx, hb, hr, hml, hown, hts, hXs, hbl, hlocks, hgv⟩ := id C0
  have hbA : ¬ (fun q : Nat => s.heap.size ≤ q) b := Nat.not_le.mpr hbl
  intro n
  induction n with
  | zero =>
    intro i x3 cells slots hn hi hiL hc hs w1 w2 I1 I2 H locs hP hD hS ls hl
    refine lv_iload_n hx hb dL_law_18 rfl (lv_at hl 0 rfl) ?_
    refine lv_aload_n hx hb dL_law_19 rfl (lv_at hl 3 rfl) ?_
    refine va_slen hx hb hXs hbl hbA hS dL_law_20 ?_
    refine lv_bipush (v := 6) hx hb dL_law_21 (by decide) ?_
    refine lv_isub hx hb dL_law_23 ?_
    refine lv_topi (fun r h => ?_)
    have f : r.toInt = (L : Int) - 6 := z_isub h (nI_toInt (by omega)) (show Int32.toInt 6 = 6 from by decide) (by omega) (by omega)
    refine lv_icmp_gt (tgt := 1621) hx hb dL_law_24 (by decide) (fun _ => ?_) (fun c => absurd (z_nlt rfl rfl c) (by omega))
    refine lv_iconst (v := 1) hx hb dL_law_1621 (by decide) ?_
    refine va_forget (fun q hq => hS.2.2 q hq) ?_
    refine W.widen (k := 600000) (n := 7302250) (by omega) (by omega) ?_
    exact lw_ret hx hb hr hlocks dL_law_1622
  | succ n ih =>
    intro i x3 cells slots hn hi hiL hc hs w1 w2 I1 I2 H locs hP hD hS ls hl
    refine lv_iload_n hx hb dL_law_18 rfl (lv_at hl 0 rfl) ?_
    refine lv_aload_n hx hb dL_law_19 rfl (lv_at hl 3 rfl) ?_
    refine va_slen hx hb hXs hbl hbA hS dL_law_20 ?_
    refine lv_bipush (v := 6) hx hb dL_law_21 (by decide) ?_
    refine lv_isub hx hb dL_law_23 ?_
    refine lv_topi (fun r h => ?_)
    have f : r.toInt = (L : Int) - 6 := z_isub h (nI_toInt (by omega)) (show Int32.toInt 6 = 6 from by decide) (by omega) (by omega)
    refine lv_icmp_gt (tgt := 1621) hx hb dL_law_24 (by decide) (fun _ => ?_) (fun c9 => ?_)
    · refine lv_iconst (v := 1) hx hb dL_law_1621 (by decide) ?_
      refine va_forget (fun q hq => hS.2.2 q hq) ?_
      refine W.widen (k := 600000) (n := 7302250) (by omega) (by omega) ?_
      exact lw_ret hx hb hr hlocks dL_law_1622
    have h9 := z_nlt rfl rfl c9
    have hiL6 : i + 6 ≤ L := by omega
    have kk : ∀ (w1 w2 : va_W) (H : Heap) (locs : List Loc) (ls : Array Slot), IX cB cI cJ cZ cP cQ a1 w1 → IM cB cI cJ cZ cP cQ a2 w2 → va_P (dC, dI) vwCl (w1 ++ w2) H → va_D (fun q : Nat => s.heap.size ≤ q) (w1 ++ w2) → va_S (fun q : Nat => s.heap.size ≤ q) s.heap H locs → lv_has ls 4 [(3, .int x3), (2, .ref a2), (1, .ref a1), (0, .ref b)] → W p l e room_1 s m #[Value.ref b] below meth c H locs (cells + 18) (slots + 1522) (lw_Z below #[Value.ref b] s) (F0 m 1615 ls []) := by
      intro w1 w2 H locs ls I1 I2 hP hD hS hl
      obtain ⟨y, hy⟩ : ∃ y : Int32, y = x3 + 6 := ⟨_, rfl⟩
      have fy : y.toInt = x3.toInt + 6 := z_iadd hy rfl (show Int32.toInt 6 = 6 from by decide) (by omega) (by omega)
      refine lv_iinc (v := y) (lv' := [(3, .int y), (2, .ref a2), (1, .ref a1), (0, .ref b)]) hx hb dL_law_1615 hl (k := 0) rfl hy.symm (by decide) rfl (fun ls hl => ?_)
      refine lv_goto (tgt := 18) hx hb dL_law_1618 (by decide) ?_
      exact ih (i + 6) y (cells + 18) (slots + 1522) (by omega) (by omega) (by omega) (by omega) (by omega) w1 w2 I1 I2 H locs hP hD hS ls hl
    refine lv_aload_n hx hb dL_law_27 rfl (lv_at hl 3 rfl) ?_
    refine lv_iload_n hx hb dL_law_28 rfl (lv_at hl 0 rfl) ?_
    refine va_sld hx hb hXs hbl hbA hS (z_in rfl (by omega) (by omega)) dL_law_29 ?_
    refine lv_bipush (v := 63) hx hb dL_law_30 (by decide) ?_
    refine lv_iand hx hb dL_law_32 ?_
    obtain ⟨j, hj, ej, et⟩ := z_tab (xs x3.toNatClampNeg)
    rcases (show j = 0 ∨ j = 1 ∨ j = 2 ∨ j = 3 ∨ j = 4 ∨ j = 5 ∨ j = 6 ∨ j = 7 ∨ j = 8 ∨ j = 9 ∨ j = 10 ∨ j = 11 ∨ j = 12 ∨ j = 13 ∨ j = 14 ∨ j = 15 ∨ j = 16 ∨ j = 17 ∨ j = 18 ∨ j = 19 ∨ j = 20 ∨ j = 21 ∨ j = 22 ∨ j = 23 ∨ j = 24 ∨ j = 25 ∨ j = 26 ∨ j = 27 ∨ j = 28 ∨ j = 29 ∨ j = 30 ∨ j = 31 ∨ j = 32 ∨ j = 33 ∨ j = 34 ∨ j = 35 ∨ j = 36 ∨ j = 37 ∨ j = 38 ∨ j = 39 ∨ j = 40 ∨ j = 41 ∨ j = 42 ∨ 43 ≤ j by omega) with rfl | rfl | rfl | rfl | rfl | rfl | rfl | rfl | rfl | rfl | rfl | rfl | rfl | rfl | rfl | rfl | rfl | rfl | rfl | rfl | rfl | rfl | rfl | rfl | rfl | rfl | rfl | rfl | rfl | rfl | rfl | rfl | rfl | rfl | rfl | rfl | rfl | rfl | rfl | rfl | rfl | rfl | rfl | hj2
    · refine lv_tableIn (off := 187) (tgt := 220) hx hb dL_law_33 (by rw [et]; decide) (by rw [et]; decide) (by rw [et]; decide) (by decide) ?_
      exact law_case0 l dC dI cB cI cJ cZ cP cQ adK adV q0 a1 a2 x3 C0 hL hK hX hE i cells slots hi hiL6 (by omega) (by omega) w1 w2 I1 I2 H locs hP hD hS ls hl kk
    · refine lv_tableIn (off := 250) (tgt := 283) hx hb dL_law_33 (by rw [et]; decide) (by rw [et]; decide) (by rw [et]; decide) (by decide) ?_
      exact law_case1 l dC dI cB cI cJ cZ cP cQ adK adV q0 a1 a2 x3 C0 hL hK hX hE i cells slots hi hiL6 (by omega) (by omega) w1 w2 I1 I2 H locs hP hD hS ls hl kk
    · refine lv_tableIn (off := 273) (tgt := 306) hx hb dL_law_33 (by rw [et]; decide) (by rw [et]; decide) (by rw [et]; decide) (by decide) ?_
      exact law_case2 l dC dI cB cI cJ cZ cP cQ adK adV q0 a1 a2 x3 C0 hL hK hX hE i cells slots hi hiL6 (by omega) (by omega) w1 w2 I1 I2 H locs hP hD hS ls hl kk
    · refine lv_tableIn (off := 286) (tgt := 319) hx hb dL_law_33 (by rw [et]; decide) (by rw [et]; decide) (by rw [et]; decide) (by decide) ?_
      exact law_case3 l dC dI cB cI cJ cZ cP cQ adK adV q0 a1 a2 x3 C0 hL hK hX hE i cells slots hi hiL6 (by omega) (by omega) w1 w2 I1 I2 H locs hP hD hS ls hl kk
    · refine lv_tableIn (off := 309) (tgt := 342) hx hb dL_law_33 (by rw [et]; decide) (by rw [et]; decide) (by rw [et]; decide) (by decide) ?_
      exact law_case4 l dC dI cB cI cJ cZ cP cQ adK adV q0 a1 a2 x3 C0 hL hK hX hE i cells slots hi hiL6 (by omega) (by omega) w1 w2 I1 I2 H locs hP hD hS ls hl kk
    · refine lv_tableIn (off := 342) (tgt := 375) hx hb dL_law_33 (by rw [et]; decide) (by rw [et]; decide) (by rw [et]; decide) (by decide) ?_
      exact law_case5 l dC dI cB cI cJ cZ cP cQ adK adV q0 a1 a2 x3 C0 hL hK hX hE i cells slots hi hiL6 (by omega) (by omega) w1 w2 I1 I2 H locs hP hD hS ls hl kk
    · refine lv_tableIn (off := 375) (tgt := 408) hx hb dL_law_33 (by rw [et]; decide) (by rw [et]; decide) (by rw [et]; decide) (by decide) ?_
      exact law_case6 l dC dI cB cI cJ cZ cP cQ adK adV q0 a1 a2 x3 C0 hL hK hX hE i cells slots hi hiL6 (by omega) (by omega) w1 w2 I1 I2 H locs hP hD hS ls hl kk
    · refine lv_tableIn (off := 428) (tgt := 461) hx hb dL_law_33 (by rw [et]; decide) (by rw [et]; decide) (by rw [et]; decide) (by decide) ?_
      exact law_case7 l dC dI cB cI cJ cZ cP cQ adK adV q0 a1 a2 x3 C0 hL hK hX hE i cells slots hi hiL6 (by omega) (by omega) w1 w2 I1 I2 H locs hP hD hS ls hl kk
    · refine lv_tableIn (off := 461) (tgt := 494) hx hb dL_law_33 (by rw [et]; decide) (by rw [et]; decide) (by rw [et]; decide) (by decide) ?_
      exact law_case8 l dC dI cB cI cJ cZ cP cQ adK adV q0 a1 a2 x3 C0 hL hK hX hE i cells slots hi hiL6 (by omega) (by omega) w1 w2 I1 I2 H locs hP hD hS ls hl kk
    · refine lv_tableIn (off := 514) (tgt := 547) hx hb dL_law_33 (by rw [et]; decide) (by rw [et]; decide) (by rw [et]; decide) (by decide) ?_
      exact law_case9 l dC dI cB cI cJ cZ cP cQ adK adV q0 a1 a2 x3 C0 hL hK hX hE i cells slots hi hiL6 (by omega) (by omega) w1 w2 I1 I2 H locs hP hD hS ls hl kk
    · refine lv_tableIn (off := 547) (tgt := 580) hx hb dL_law_33 (by rw [et]; decide) (by rw [et]; decide) (by rw [et]; decide) (by decide) ?_
      exact law_case10 l dC dI cB cI cJ cZ cP cQ adK adV q0 a1 a2 x3 C0 hL hK hX hE i cells slots hi hiL6 (by omega) (by omega) w1 w2 I1 I2 H locs hP hD hS ls hl kk
    · refine lv_tableIn (off := 580) (tgt := 613) hx hb dL_law_33 (by rw [et]; decide) (by rw [et]; decide) (by rw [et]; decide) (by decide) ?_
      exact law_case11 l dC dI cB cI cJ cZ cP cQ adK adV q0 a1 a2 x3 C0 hL hK hX hE i cells slots hi hiL6 (by omega) (by omega) w1 w2 I1 I2 H locs hP hD hS ls hl kk
    · refine lv_tableIn (off := 603) (tgt := 636) hx hb dL_law_33 (by rw [et]; decide) (by rw [et]; decide) (by rw [et]; decide) (by decide) ?_
      exact law_case12 l dC dI cB cI cJ cZ cP cQ adK adV q0 a1 a2 x3 C0 hL hK hX hE i cells slots hi hiL6 (by omega) (by omega) w1 w2 I1 I2 H locs hP hD hS ls hl kk
    · refine lv_tableIn (off := 636) (tgt := 669) hx hb dL_law_33 (by rw [et]; decide) (by rw [et]; decide) (by rw [et]; decide) (by decide) ?_
      exact law_case13 l dC dI cB cI cJ cZ cP cQ adK adV q0 a1 a2 x3 C0 hL hK hX hE i cells slots hi hiL6 (by omega) (by omega) w1 w2 I1 I2 H locs hP hD hS ls hl kk
    · refine lv_tableIn (off := 649) (tgt := 682) hx hb dL_law_33 (by rw [et]; decide) (by rw [et]; decide) (by rw [et]; decide) (by decide) ?_
      exact law_case14 l dC dI cB cI cJ cZ cP cQ adK adV q0 a1 a2 x3 C0 hL hK hX hE i cells slots hi hiL6 (by omega) (by omega) w1 w2 I1 I2 H locs hP hD hS ls hl kk
    · refine lv_tableIn (off := 672) (tgt := 705) hx hb dL_law_33 (by rw [et]; decide) (by rw [et]; decide) (by rw [et]; decide) (by decide) ?_
      exact law_case15 l dC dI cB cI cJ cZ cP cQ adK adV q0 a1 a2 x3 C0 hL hK hX hE i cells slots hi hiL6 (by omega) (by omega) w1 w2 I1 I2 H locs hP hD hS ls hl kk
    · refine lv_tableIn (off := 685) (tgt := 718) hx hb dL_law_33 (by rw [et]; decide) (by rw [et]; decide) (by rw [et]; decide) (by decide) ?_
      exact law_case16 l dC dI cB cI cJ cZ cP cQ adK adV q0 a1 a2 x3 C0 hL hK hX hE i cells slots hi hiL6 (by omega) (by omega) w1 w2 I1 I2 H locs hP hD hS ls hl kk
    · refine lv_tableIn (off := 698) (tgt := 731) hx hb dL_law_33 (by rw [et]; decide) (by rw [et]; decide) (by rw [et]; decide) (by decide) ?_
      exact law_case17 l dC dI cB cI cJ cZ cP cQ adK adV q0 a1 a2 x3 C0 hL hK hX hE i cells slots hi hiL6 (by omega) (by omega) w1 w2 I1 I2 H locs hP hD hS ls hl kk
    · refine lv_tableIn (off := 721) (tgt := 754) hx hb dL_law_33 (by rw [et]; decide) (by rw [et]; decide) (by rw [et]; decide) (by decide) ?_
      exact law_case18 l dC dI cB cI cJ cZ cP cQ adK adV q0 a1 a2 x3 C0 hL hK hX hE i cells slots hi hiL6 (by omega) (by omega) w1 w2 I1 I2 H locs hP hD hS ls hl kk
    · refine lv_tableIn (off := 744) (tgt := 777) hx hb dL_law_33 (by rw [et]; decide) (by rw [et]; decide) (by rw [et]; decide) (by decide) ?_
      exact law_case19 l dC dI cB cI cJ cZ cP cQ adK adV q0 a1 a2 x3 C0 hL hK hX hE i cells slots hi hiL6 (by omega) (by omega) w1 w2 I1 I2 H locs hP hD hS ls hl kk
    · refine lv_tableIn (off := 757) (tgt := 790) hx hb dL_law_33 (by rw [et]; decide) (by rw [et]; decide) (by rw [et]; decide) (by decide) ?_
      exact law_case20 l dC dI cB cI cJ cZ cP cQ adK adV q0 a1 a2 x3 C0 hL hK hX hE i cells slots hi hiL6 (by omega) (by omega) w1 w2 I1 I2 H locs hP hD hS ls hl kk
    · refine lv_tableIn (off := 800) (tgt := 833) hx hb dL_law_33 (by rw [et]; decide) (by rw [et]; decide) (by rw [et]; decide) (by decide) ?_
      exact law_case21 l dC dI cB cI cJ cZ cP cQ adK adV q0 a1 a2 x3 C0 hL hK hX hE i cells slots hi hiL6 (by omega) (by omega) w1 w2 I1 I2 H locs hP hD hS ls hl kk
    · refine lv_tableIn (off := 843) (tgt := 876) hx hb dL_law_33 (by rw [et]; decide) (by rw [et]; decide) (by rw [et]; decide) (by decide) ?_
      exact law_case22 l dC dI cB cI cJ cZ cP cQ adK adV q0 a1 a2 x3 C0 hL hK hX hE i cells slots hi hiL6 (by omega) (by omega) w1 w2 I1 I2 H locs hP hD hS ls hl kk
    · refine lv_tableIn (off := 886) (tgt := 919) hx hb dL_law_33 (by rw [et]; decide) (by rw [et]; decide) (by rw [et]; decide) (by decide) ?_
      exact law_case23 l dC dI cB cI cJ cZ cP cQ adK adV q0 a1 a2 x3 C0 hL hK hX hE i cells slots hi hiL6 (by omega) (by omega) w1 w2 I1 I2 H locs hP hD hS ls hl kk
    · refine lv_tableIn (off := 939) (tgt := 972) hx hb dL_law_33 (by rw [et]; decide) (by rw [et]; decide) (by rw [et]; decide) (by decide) ?_
      exact law_case24 l dC dI cB cI cJ cZ cP cQ adK adV q0 a1 a2 x3 C0 hL hK hX hE i cells slots hi hiL6 (by omega) (by omega) w1 w2 I1 I2 H locs hP hD hS ls hl kk
    · refine lv_tableIn (off := 962) (tgt := 995) hx hb dL_law_33 (by rw [et]; decide) (by rw [et]; decide) (by rw [et]; decide) (by decide) ?_
      exact law_case25 l dC dI cB cI cJ cZ cP cQ adK adV q0 a1 a2 x3 C0 hL hK hX hE i cells slots hi hiL6 (by omega) (by omega) w1 w2 I1 I2 H locs hP hD hS ls hl kk
    · refine lv_tableIn (off := 995) (tgt := 1028) hx hb dL_law_33 (by rw [et]; decide) (by rw [et]; decide) (by rw [et]; decide) (by decide) ?_
      exact law_case26 l dC dI cB cI cJ cZ cP cQ adK adV q0 a1 a2 x3 C0 hL hK hX hE i cells slots hi hiL6 (by omega) (by omega) w1 w2 I1 I2 H locs hP hD hS ls hl kk
    · refine lv_tableIn (off := 1018) (tgt := 1051) hx hb dL_law_33 (by rw [et]; decide) (by rw [et]; decide) (by rw [et]; decide) (by decide) ?_
      exact law_case27 l dC dI cB cI cJ cZ cP cQ adK adV q0 a1 a2 x3 C0 hL hK hX hE i cells slots hi hiL6 (by omega) (by omega) w1 w2 I1 I2 H locs hP hD hS ls hl kk
    · refine lv_tableIn (off := 1041) (tgt := 1074) hx hb dL_law_33 (by rw [et]; decide) (by rw [et]; decide) (by rw [et]; decide) (by decide) ?_
      exact law_case28 l dC dI cB cI cJ cZ cP cQ adK adV q0 a1 a2 x3 C0 hL hK hX hE i cells slots hi hiL6 (by omega) (by omega) w1 w2 I1 I2 H locs hP hD hS ls hl kk
    · refine lv_tableIn (off := 1080) (tgt := 1113) hx hb dL_law_33 (by rw [et]; decide) (by rw [et]; decide) (by rw [et]; decide) (by decide) ?_
      exact law_case29 l dC dI cB cI cJ cZ cP cQ adK adV q0 a1 a2 x3 C0 hL hK hX hE i cells slots hi hiL6 (by omega) (by omega) w1 w2 I1 I2 H locs hP hD hS ls hl kk
    · refine lv_tableIn (off := 1113) (tgt := 1146) hx hb dL_law_33 (by rw [et]; decide) (by rw [et]; decide) (by rw [et]; decide) (by decide) ?_
      exact law_case30 l dC dI cB cI cJ cZ cP cQ adK adV q0 a1 a2 x3 C0 hL hK hX hE i cells slots hi hiL6 (by omega) (by omega) w1 w2 I1 I2 H locs hP hD hS ls hl kk
    · refine lv_tableIn (off := 1136) (tgt := 1169) hx hb dL_law_33 (by rw [et]; decide) (by rw [et]; decide) (by rw [et]; decide) (by decide) ?_
      exact law_case31 l dC dI cB cI cJ cZ cP cQ adK adV q0 a1 a2 x3 C0 hL hK hX hE i cells slots hi hiL6 (by omega) (by omega) w1 w2 I1 I2 H locs hP hD hS ls hl kk
    · refine lv_tableIn (off := 1169) (tgt := 1202) hx hb dL_law_33 (by rw [et]; decide) (by rw [et]; decide) (by rw [et]; decide) (by decide) ?_
      exact law_case32 l dC dI cB cI cJ cZ cP cQ adK adV q0 a1 a2 x3 C0 hL hK hX hE i cells slots hi hiL6 (by omega) (by omega) w1 w2 I1 I2 H locs hP hD hS ls hl kk
    · refine lv_tableIn (off := 1202) (tgt := 1235) hx hb dL_law_33 (by rw [et]; decide) (by rw [et]; decide) (by rw [et]; decide) (by decide) ?_
      exact law_case33 l dC dI cB cI cJ cZ cP cQ adK adV q0 a1 a2 x3 C0 hL hK hX hE i cells slots hi hiL6 (by omega) (by omega) w1 w2 I1 I2 H locs hP hD hS ls hl kk
    · refine lv_tableIn (off := 1265) (tgt := 1298) hx hb dL_law_33 (by rw [et]; decide) (by rw [et]; decide) (by rw [et]; decide) (by decide) ?_
      exact law_case34 l dC dI cB cI cJ cZ cP cQ adK adV q0 a1 a2 x3 C0 hL hK hX hE i cells slots hi hiL6 (by omega) (by omega) w1 w2 I1 I2 H locs hP hD hS ls hl kk
    · refine lv_tableIn (off := 1288) (tgt := 1321) hx hb dL_law_33 (by rw [et]; decide) (by rw [et]; decide) (by rw [et]; decide) (by decide) ?_
      exact law_case35 l dC dI cB cI cJ cZ cP cQ adK adV q0 a1 a2 x3 C0 hL hK hX hE i cells slots hi hiL6 (by omega) (by omega) w1 w2 I1 I2 H locs hP hD hS ls hl kk
    · refine lv_tableIn (off := 1311) (tgt := 1344) hx hb dL_law_33 (by rw [et]; decide) (by rw [et]; decide) (by rw [et]; decide) (by decide) ?_
      exact law_case36 l dC dI cB cI cJ cZ cP cQ adK adV q0 a1 a2 x3 C0 hL hK hX hE i cells slots hi hiL6 (by omega) (by omega) w1 w2 I1 I2 H locs hP hD hS ls hl kk
    · refine lv_tableIn (off := 1334) (tgt := 1367) hx hb dL_law_33 (by rw [et]; decide) (by rw [et]; decide) (by rw [et]; decide) (by decide) ?_
      exact law_case37 l dC dI cB cI cJ cZ cP cQ adK adV q0 a1 a2 x3 C0 hL hK hX hE i cells slots hi hiL6 (by omega) (by omega) w1 w2 I1 I2 H locs hP hD hS ls hl kk
    · refine lv_tableIn (off := 1357) (tgt := 1390) hx hb dL_law_33 (by rw [et]; decide) (by rw [et]; decide) (by rw [et]; decide) (by decide) ?_
      exact law_case38 l dC dI cB cI cJ cZ cP cQ adK adV q0 a1 a2 x3 C0 hL hK hX hE i cells slots hi hiL6 (by omega) (by omega) w1 w2 I1 I2 H locs hP hD hS ls hl kk
    · refine lv_tableIn (off := 1380) (tgt := 1413) hx hb dL_law_33 (by rw [et]; decide) (by rw [et]; decide) (by rw [et]; decide) (by decide) ?_
      exact law_case39 l dC dI cB cI cJ cZ cP cQ adK adV q0 a1 a2 x3 C0 hL hK hX hE i cells slots hi hiL6 (by omega) (by omega) w1 w2 I1 I2 H locs hP hD hS ls hl kk
    · refine lv_tableIn (off := 1403) (tgt := 1436) hx hb dL_law_33 (by rw [et]; decide) (by rw [et]; decide) (by rw [et]; decide) (by decide) ?_
      exact law_case40 l dC dI cB cI cJ cZ cP cQ adK adV q0 a1 a2 x3 C0 hL hK hX hE i cells slots hi hiL6 (by omega) (by omega) w1 w2 I1 I2 H locs hP hD hS ls hl kk
    · refine lv_tableIn (off := 1446) (tgt := 1479) hx hb dL_law_33 (by rw [et]; decide) (by rw [et]; decide) (by rw [et]; decide) (by decide) ?_
      exact law_case41 l dC dI cB cI cJ cZ cP cQ adK adV q0 a1 a2 x3 C0 hL hK hX hE i cells slots hi hiL6 (by omega) (by omega) w1 w2 I1 I2 H locs hP hD hS ls hl kk
    · refine lv_tableIn (off := 1519) (tgt := 1552) hx hb dL_law_33 (by rw [et]; decide) (by rw [et]; decide) (by rw [et]; decide) (by decide) ?_
      exact law_case42 l dC dI cB cI cJ cZ cP cQ adK adV q0 a1 a2 x3 C0 hL hK hX hE i cells slots hi hiL6 (by omega) (by omega) w1 w2 I1 I2 H locs hP hD hS ls hl kk
    · refine lv_tableOut (tgt := 1615) hx hb dL_law_33 (by rw [et]; omega) (by decide) ?_
      refine W.widen (k := cells + 18) (n := slots + 1522) (by omega) (by omega) ?_
      exact kk w1 w2 H locs ls I1 I2 hP hD hS hl
theorem z_arrQ {D : va_G} {w : va_W} {H : Heap} {A : Nat → Prop} {a n : Nat} {cA : ClassId} {f g : Nat → Option Nat} (hP : va_P D vwCl w H) (hD : va_D A w) (k : Nat) (hk : w[k]? = some (a, .inl (cA, n, .inr (.inr (.inr (.inr f)))))) (h : ∀ j, j < n → f j = g j) : va_P D vwCl (w.set k (a, .inl (cA, n, .inr (.inr (.inr (.inr g)))))) H ∧ va_D A (w.set k (a, .inl (cA, n, .inr (.inr (.inr (.inr g)))))) := by
  have e1 : vp_cell cA (n, .inr (.inr (.inr (.inr f)))) = vp_cell cA (n, .inr (.inr (.inr (.inr g)))) := by
    rw [vp_cell_q, vp_cell_q]
    unfold arrV
    congr 1
    apply Array.ext
    · simp
    · intro i h1 h2
      simp at h1 ⊢
      rw [h i h1]
  have h0 : H[a]? = some (vp_cell cA (n, .inr (.inr (.inr (.inr f))))) := hP k _ hk
  rw [e1] at h0
  exact ⟨va_P.set hP hD hk h0 (fun _ _ => rfl), hD.set hk⟩
theorem zMo_i {mo : Nat → Int32} : zMo (fun _ => 0) mo := fun b i _ h => absurd (show (i : Int) < 0 from h) (by omega)
theorem zSh_i {sh : Nat → Int32} : zSh (fun _ => 0) sh := fun b i _ h => absurd (show (i : Int) < 0 from h) (by omega)
theorem zCo_i {cs : Nat → Int32} : zCo (fun _ => 0) cs := fun b _ k h => absurd (show (k : Int) < 0 from h) (by omega)

set_option maxHeartbeats 8000000 in
set_option maxRecDepth 100000 in
theorem law_e1 : ∀ i : Nat, i < 20 → Cond.exactly (.string RX7 (zsIx i).1) "java/lang/String" ∈ flatC (Jvm.Cond.and given_1 narrow_1) := by
  sorry
set_option maxHeartbeats 8000000 in
set_option maxRecDepth 100000 in
theorem law_e2 : ∀ i : Nat, i < 20 → Cond.eq (.field (.string RX7 (zsIx i).1) "java/lang/String" "coder" "B") (.int 0) ∈ flatC (Jvm.Cond.and given_1 narrow_1) := by
  sorry
set_option maxHeartbeats 8000000 in
set_option maxRecDepth 100000 in
theorem law_e3 : ∀ i : Nat, i < 20 → Cond.arrayOf (.field (.string RX7 (zsIx i).1) "java/lang/String" "value" "[B") .byte ∈ flatC (Jvm.Cond.and given_1 narrow_1) := by
  sorry
set_option maxHeartbeats 8000000 in
set_option maxRecDepth 100000 in
theorem law_e4 : ∀ i : Nat, i < 20 → Cond.eq (.length (.field (.string RX7 (zsIx i).1) "java/lang/String" "value" "[B")) (.int (Int32.ofNat (zsLen.getD i 0))) ∈ flatC (Jvm.Cond.and given_1 narrow_1) := by
  sorry
set_option maxHeartbeats 8000000 in
set_option maxRecDepth 100000 in
theorem law_e5 : ∀ i : Nat, i < 20 → ∀ j : Nat, j < zsLen.getD i 0 → Cond.eq (.elem (.field (.string RX7 (zsIx i).1) "java/lang/String" "value" "[B") (.int (Int32.ofNat j))) (.int ((zsByt.getD i []).getD j 0)) ∈ flatC (Jvm.Cond.and given_1 narrow_1) := by
  sorry
set_option maxHeartbeats 8000000 in
set_option maxRecDepth 100000 in
theorem law_e6 : ∀ i : Nat, i < 20 → ∀ j : Nat, j < 20 → i ≠ j → Cond.not (Cond.eq (.string RX7 (zsIx i).1) (.string RX7 (zsIx j).1)) ∈ flatC (Jvm.Cond.and given_1 narrow_1) ∨ Cond.not (Cond.eq (.string RX7 (zsIx j).1) (.string RX7 (zsIx i).1)) ∈ flatC (Jvm.Cond.and given_1 narrow_1) := by
  sorry
set_option maxHeartbeats 8000000 in
set_option maxRecDepth 100000 in
theorem law_e7 : ∀ i : Nat, i < 20 → Cond.stringRef RX7 (zsIx i).1 (zsIx i).2 ∈ lw_tbl := by
  sorry
set_option maxHeartbeats 8000000 in
set_option maxRecDepth 100000 in
theorem law_E {b : Nat} {s : State} (hts : ∀ w ∈ lw_tbl, w.before #[Value.ref b] s = true) (hgv : (Jvm.Cond.and given_1 narrow_1).before #[Value.ref b] s = true) : ∃ (adK adV : Nat → Nat) (q0 : Option Nat), zE adK adV q0 (fun q : Nat => s.heap.size ≤ q) s s.heap := by
  have hq := flat_of_before _ hgv
  have hA : ∀ a : Nat, a < s.heap.size → ¬ (fun q : Nat => s.heap.size ≤ q) a := fun a h => Nat.not_le.mpr h
  obtain ⟨adK, adV, hS, hev⟩ := vk_Sof (args := #[Value.ref b]) (s := s) (N := 20) (tm := fun i => .string RX7 (zsIx i).1) (len := zsLen) (byt := zsByt) (A := (fun q : Nat => s.heap.size ≤ q)) (by decide) (fun i hi => hq _ (law_e1 i hi)) (fun i hi => hq _ (law_e2 i hi)) (fun i hi => hq _ (law_e3 i hi)) (fun i hi => hq _ (law_e4 i hi)) (fun i hi j hj => hq _ (law_e5 i hi j hj)) (fun i j hi hj hij => (law_e6 i hi j hj hij).elim (fun h => Or.inl (hq _ h)) (fun h => Or.inr (hq _ h))) hA
  have hz1 : va_Z "java/lang/String" "COMPACT_STRINGS" "Z" (.int 1) (fun q : Nat => s.heap.size ≤ q) s s.heap := va_Zof (hts (.laysStatic "java/lang/String" "COMPACT_STRINGS" "Z") (by decide +kernel)) (hts (.initialized "java/lang/String") (by decide +kernel)) (va_eqi (hq (.eq (.static "java/lang/String" "COMPACT_STRINGS" "Z") (.int 1)) (by decide +kernel))) hA
  rcases va_Zqof (A := (fun q : Nat => s.heap.size ≤ q)) (hts (.laysStatic "jdk/internal/util/Preconditions" "SIOOBE_FORMATTER" "Ljava/util/function/BiFunction;") (by decide +kernel)) (hts (.initialized "jdk/internal/util/Preconditions") (by decide +kernel)) (hq (.isRef (.static "jdk/internal/util/Preconditions" "SIOOBE_FORMATTER" "Ljava/util/function/BiFunction;")) (by decide +kernel)) hA with h | ⟨t, h⟩
  · exact ⟨adK, adV, none, hS, hz1, h, fun i hi => vk_R.of (A := #[Value.ref b]) (hts _ (law_e7 i hi)) (hev i hi)⟩
  · exact ⟨adK, adV, some t, hS, hz1, h, fun i hi => vk_R.of (A := #[Value.ref b]) (hts _ (law_e7 i hi)) (hev i hi)⟩
set_option maxHeartbeats 8000000 in
set_option maxRecDepth 100000 in
theorem IX_new (cB cI cJ cZ cP cQ : ClassId) (u0 : Nat → Nat) (a1 : Nat) : IX cB cI cJ cZ cP cQ a1 [(a1, .inr (8, [.ref (u0 0), .ref (u0 2), .ref (u0 12), .ref (u0 22), .ref (u0 29), .ref (u0 36), .ref (u0 37), .ref (u0 38), .ref (u0 42), .ref (u0 43)])), (u0 0, .inr (7, [.ref (u0 1), .int 0, .int 0, .int (-1), .int 0, .int 0, .int 0, .int 0])), (u0 1, .inl (cB, 600, .inl (fun _ => 0))), (u0 2, .inr (3, [.int 0, .int 0, .int 0, .int 0, .int 0, .int 0, .int 0, .ref (u0 3), .ref (u0 4), .ref (u0 5), .ref (u0 6), .ref (u0 7), .ref (u0 8), .ref (u0 9), .ref (u0 10), .ref (u0 11)])), (u0 3, .inl (cI, 6, .inl (fun _ => 0))), (u0 4, .inl (cI, 6, .inl (fun _ => 0))), (u0 5, .inl (cI, 8, .inl (fun _ => 0))), (u0 6, .inl (cI, 8, .inl (fun _ => 0))), (u0 7, .inl (cI, 8, .inl (fun _ => 0))), (u0 8, .inl (cI, 8, .inl (fun _ => 0))), (u0 9, .inl (cI, 13, .inl (fun _ => (-1)))), (u0 10, .inl (cI, 120, .inl (fun _ => 0))), (u0 11, .inl (cI, 120, .inl (fun _ => 0))), (u0 12, .inr (3, [.int 0, .int 0, .int 0, .int 0, .int 0, .int 0, .int 0, .ref (u0 13), .ref (u0 14), .ref (u0 15), .ref (u0 16), .ref (u0 17), .ref (u0 18), .ref (u0 19), .ref (u0 20), .ref (u0 21)])), (u0 13, .inl (cI, 6, .inl (fun _ => 0))), (u0 14, .inl (cI, 6, .inl (fun _ => 0))), (u0 15, .inl (cI, 8, .inl (fun _ => 0))), (u0 16, .inl (cI, 8, .inl (fun _ => 0))), (u0 17, .inl (cI, 8, .inl (fun _ => 0))), (u0 18, .inl (cI, 8, .inl (fun _ => 0))), (u0 19, .inl (cI, 13, .inl (fun _ => (-1)))), (u0 20, .inl (cI, 120, .inl (fun _ => 0))), (u0 21, .inl (cI, 120, .inl (fun _ => 0))), (u0 22, .inr (5, [.int 0, .ref (u0 23), .ref (u0 24), .ref (u0 25), .ref (u0 26), .ref (u0 27), .ref (u0 28)])), (u0 23, .inl (cI, 200, .inl (fun _ => 0))), (u0 24, .inl (cI, 200, .inl (fun _ => 0))), (u0 25, .inl (cI, 200, .inl (fun _ => 0))), (u0 26, .inl (cI, 200, .inl (fun _ => 0))), (u0 27, .inl (cI, 200, .inl (fun _ => 0))), (u0 28, .inl (cI, 200, .inl (fun _ => 0))), (u0 29, .inr (5, [.int 0, .ref (u0 30), .ref (u0 31), .ref (u0 32), .ref (u0 33), .ref (u0 34), .ref (u0 35)])), (u0 30, .inl (cI, 200, .inl (fun _ => 0))), (u0 31, .inl (cI, 200, .inl (fun _ => 0))), (u0 32, .inl (cI, 200, .inl (fun _ => 0))), (u0 33, .inl (cI, 200, .inl (fun _ => 0))), (u0 34, .inl (cI, 200, .inl (fun _ => 0))), (u0 35, .inl (cI, 200, .inl (fun _ => 0))), (u0 36, .inr (0, [.long 0])), (u0 37, .inr (6, [.long 0, .long 0, .long 0, .long 0, .long 0, .long 0, .long 0, .long 0, .long 0, .long 0, .long 0])), (u0 38, .inr (1, [.ref (u0 39), .ref (u0 40), .ref (u0 41)])), (u0 39, .inl (cJ, 72, .inr (.inl (fun _ => 0)))), (u0 40, .inl (cJ, 72, .inr (.inl (fun _ => 0)))), (u0 41, .inl (cJ, 72, .inr (.inl (fun _ => 0)))), (u0 42, .inl (cP, 3, .inr (.inr (.inr (.inr (fun _ => none)))))), (u0 43, .inl (cQ, 4, .inr (.inr (.inr (.inr (zQ4 (u0 44) (u0 46) (u0 48) (u0 50))))))), (u0 44, .inr (4, [.int (-1), .int 0, .ref (u0 45)])), (u0 45, .inl (cJ, 60, .inr (.inl (fun _ => 0)))), (u0 46, .inr (4, [.int (-1), .int 0, .ref (u0 47)])), (u0 47, .inl (cJ, 60, .inr (.inl (fun _ => 0)))), (u0 48, .inr (4, [.int (-1), .int 0, .ref (u0 49)])), (u0 49, .inl (cJ, 60, .inr (.inl (fun _ => 0)))), (u0 50, .inr (4, [.int (-1), .int 0, .ref (u0 51)])), (u0 51, .inl (cJ, 60, .inr (.inl (fun _ => 0))))] := IX_mk (u0 0) (u0 1) (u0 2) (u0 3) (u0 4) (u0 5) (u0 6) (u0 7) (u0 8) (u0 9) (u0 10) (u0 11) (u0 12) (u0 13) (u0 14) (u0 15) (u0 16) (u0 17) (u0 18) (u0 19) (u0 20) (u0 21) (u0 22) (u0 23) (u0 24) (u0 25) (u0 26) (u0 27) (u0 28) (u0 29) (u0 30) (u0 31) (u0 32) (u0 33) (u0 34) (u0 35) (u0 36) (u0 37) (u0 38) (u0 39) (u0 40) (u0 41) (u0 42) (u0 43) (u0 44) (u0 45) (u0 46) (u0 47) (u0 48) (u0 49) (u0 50) (u0 51) 0 0 (-1) 0 0 0 0 (fun _ => 0) 0 0 0 0 0 0 0 (fun _ => 0) (fun _ => 0) (fun _ => 0) (fun _ => 0) (fun _ => 0) (fun _ => 0) (fun _ => (-1)) (fun _ => 0) (fun _ => 0) 0 0 0 0 0 0 0 (fun _ => 0) (fun _ => 0) (fun _ => 0) (fun _ => 0) (fun _ => 0) (fun _ => 0) (fun _ => (-1)) (fun _ => 0) (fun _ => 0) 0 (fun _ => 0) (fun _ => 0) (fun _ => 0) (fun _ => 0) (fun _ => 0) (fun _ => 0) 0 (fun _ => 0) (fun _ => 0) (fun _ => 0) (fun _ => 0) (fun _ => 0) (fun _ => 0) 0 0 0 0 0 0 0 0 0 0 0 0 (fun _ => 0) (fun _ => 0) (fun _ => 0) (fun _ => none) (-1) 0 (fun _ => 0) (-1) 0 (fun _ => 0) (-1) 0 (fun _ => 0) (-1) 0 (fun _ => 0) [] [] [] (by decide) (by decide) (by decide) (by decide) (by decide) (by decide) (by decide) (by decide) (by decide) (by decide) (by decide) (by decide) (by decide) (by decide) (zR_const rfl (by decide) (by decide)) (zR_const rfl (by decide) (by decide)) (by decide) (by decide) (by decide) (by decide) (by decide) (by decide) (by decide) (by decide) (zR_const rfl (by decide) (by decide)) (zR_const rfl (by decide) (by decide)) (by decide) (by decide) (zR_const rfl (by decide) (by decide)) (by decide) (by decide) (zR_const rfl (by decide) (by decide)) (by decide) (by decide) (by decide) (by decide) (by decide) (by decide) (by decide) (by decide) (by decide) (by decide) (by decide) (by decide) (by decide) (by decide) (by decide) (by decide) (by decide) (by decide) (by decide) (Or.inl ⟨rfl, rfl⟩) (Or.inl ⟨rfl, rfl⟩) (Or.inl ⟨rfl, rfl⟩) (List.Perm.refl _)
set_option maxHeartbeats 8000000 in
set_option maxRecDepth 100000 in
theorem IM_new (cB cI cJ cZ cP cQ : ClassId) (u1 : Nat → Nat) (a2 : Nat) : IM cB cI cJ cZ cP cQ a2 [(a2, .inr (9, [.int 0, .ref (u1 0), .ref (u1 1), .ref (u1 2), .ref (u1 3), .ref (u1 4), .int 0, .int 0, .int 0, .int 0, .int 0, .long 0, .int 0, .int 0, .int 0, .int (-1), .ref (u1 5), .ref (u1 6), .ref (u1 7), .ref (u1 8), .ref (u1 9), .ref (u1 10), .ref (u1 11), .ref (u1 12), .ref (u1 13), .ref (u1 14), .ref (u1 15), .ref (u1 16), .ref (u1 17), .ref (u1 18), .ref (u1 19), .ref (u1 20), .ref (u1 21), .ref (u1 22), .ref (u1 23), .ref (u1 24), .ref (u1 25), .ref (u1 26), .ref (u1 27), .ref (u1 28), .ref (u1 29), .ref (u1 30), .long 0, .int 0, .long 0, .long 0, .long 0, .long 0, .long 0, .long 0, .long 0, .long 0, .ref (u1 31), .int 0, .ref (u1 32), .ref (u1 33), .ref (u1 34), .long 0, .long 0, .ref (u1 35)])), (u1 0, .inl (cI, 4, .inl (fun _ => (-1)))), (u1 1, .inl (cI, 4, .inl (fun _ => 0))), (u1 2, .inl (cJ, 240, .inr (.inl (fun _ => 0)))), (u1 3, .inl (cJ, 60, .inr (.inl (fun _ => 0)))), (u1 4, .inl (cB, 600, .inl (fun _ => 0))), (u1 5, .inl (cI, 5, .inl (fun _ => 0))), (u1 6, .inl (cI, 5, .inl (fun _ => 0))), (u1 7, .inl (cI, 30, .inl (fun _ => 0))), (u1 8, .inl (cI, 30, .inl (fun _ => 0))), (u1 9, .inl (cI, 5, .inl (fun _ => 0))), (u1 10, .inl (cI, 40, .inl (fun _ => 0))), (u1 11, .inl (cI, 40, .inl (fun _ => 0))), (u1 12, .inl (cI, 40, .inl (fun _ => 0))), (u1 13, .inl (cI, 40, .inl (fun _ => 0))), (u1 14, .inl (cZ, 60, .inl (fun _ => 0))), (u1 15, .inl (cI, 60, .inl (fun _ => 0))), (u1 16, .inl (cZ, 5, .inl (fun _ => 0))), (u1 17, .inl (cZ, 5, .inl (fun _ => 0))), (u1 18, .inl (cI, 5, .inl (fun _ => 0))), (u1 19, .inl (cI, 5, .inl (fun _ => 0))), (u1 20, .inl (cI, 5, .inl (fun _ => 0))), (u1 21, .inl (cI, 1600, .inl (fun _ => 0))), (u1 22, .inl (cZ, 3, .inl (fun _ => 0))), (u1 23, .inl (cJ, 320, .inr (.inl (fun _ => 0)))), (u1 24, .inl (cI, 5, .inl (fun _ => 0))), (u1 25, .inl (cI, 1000, .inl (fun _ => 0))), (u1 26, .inl (cI, 1000, .inl (fun _ => 0))), (u1 27, .inl (cI, 1000, .inl (fun _ => 0))), (u1 28, .inl (cI, 1000, .inl (fun _ => 0))), (u1 29, .inl (cI, 1000, .inl (fun _ => 0))), (u1 30, .inl (cI, 1000, .inl (fun _ => 0))), (u1 31, .inl (cZ, 200, .inl (fun _ => 0))), (u1 32, .inl (cJ, 72, .inr (.inl (fun _ => 0)))), (u1 33, .inl (cJ, 72, .inr (.inl (fun _ => 0)))), (u1 34, .inl (cJ, 72, .inr (.inl (fun _ => 0)))), (u1 35, .inl (cZ, 199, .inl (fun _ => 0)))] := IM_mk (u1 0) (u1 1) (u1 2) (u1 3) (u1 4) (u1 5) (u1 6) (u1 7) (u1 8) (u1 9) (u1 10) (u1 11) (u1 12) (u1 13) (u1 14) (u1 15) (u1 16) (u1 17) (u1 18) (u1 19) (u1 20) (u1 21) (u1 22) (u1 23) (u1 24) (u1 25) (u1 26) (u1 27) (u1 28) (u1 29) (u1 30) (u1 31) (u1 32) (u1 33) (u1 34) (u1 35) 0 0 0 0 0 0 0 0 0 0 (-1) 0 0 0 0 0 0 0 0 0 0 0 0 0 (fun _ => (-1)) (fun _ => 0) (fun _ => 0) (fun _ => 0) (fun _ => 0) (fun _ => 0) (fun _ => 0) (fun _ => 0) (fun _ => 0) (fun _ => 0) (fun _ => 0) (fun _ => 0) (fun _ => 0) (fun _ => 0) (fun _ => 0) (fun _ => 0) (fun _ => 0) (fun _ => 0) (fun _ => 0) (fun _ => 0) (fun _ => 0) (fun _ => 0) (fun _ => 0) (fun _ => 0) (fun _ => 0) (fun _ => 0) (fun _ => 0) (fun _ => 0) (fun _ => 0) (fun _ => 0) (fun _ => 0) (fun _ => 0) (fun _ => 0) (fun _ => 0) (fun _ => 0) (fun _ => 0) (by decide) (by decide) (by decide) (by decide) (by decide) (by decide) (zR_const rfl (by decide) (by decide)) (zR_const rfl (by decide) (by decide)) (zR_const rfl (by decide) (by decide)) (zR_const rfl (by decide) (by decide)) (zR_const rfl (by decide) (by decide)) (zR_const rfl (by decide) (by decide)) (zR_const rfl (by decide) (by decide)) (zR_const rfl (by decide) (by decide)) (zR_const rfl (by decide) (by decide)) (zR_const rfl (by decide) (by decide)) (zR_const rfl (by decide) (by decide)) (zR_const rfl (by decide) (by decide)) zMo_i zSh_i zCo_i (List.Perm.refl _)
set_option maxHeartbeats 8000000 in
set_option maxRecDepth 100000 in
/-- YOUR PART: from the entry, for every script of at most 3072 ints, the law comes to its end with true -/
theorem whole_start {p : Program} {e : Env} {s : State} {m : MethodId} {below : List Frame} {meth : Method} {c : Code} (l : Launch) {b L : Nat} {xs : Nat → Int32} (hL : L ≤ 3072) (C0 : lw_At p s m meth c b L xs) : W p l e room_1 s m #[Value.ref b] below meth c s.heap [] 0 0 (lw_Z below #[Value.ref b] s) (entryFrame m ([Value.ref b] : List Value).toArray 4) := by
  obtain ⟨hx, hb, hr, hml, hown, hts0, hXs, hbl, hlocks, hgv⟩ := id C0
  have hown : s.vm.findClass RL = some m.cls := hown
  have hts := hts0
  have hA : ∀ q : Nat, s.heap.size ≤ q → (fun q : Nat => s.heap.size ≤ q) q := fun _ h => h
  obtain ⟨dC, dI, cB, cI, cJ, cZ, cP, cQ, hK⟩ := law_K hts0
  have hX := law_X hts0
  obtain ⟨adK, adV, q0, hE⟩ := law_E hts0 hgv
  have hS : va_S (fun q : Nat => s.heap.size ≤ q) s.heap s.heap [] := va_S.rf
  have hP : va_P (dC, dI) vwCl [] s.heap := fun k q h => by simp at h
  have hD : va_D (fun q : Nat => s.heap.size ≤ q) [] := ⟨fun i j p q h => by simp at h, fun k q h => by simp at h⟩
  have hl := lv_entry ([.ref b]) (n := 4) (Nat.le_of_ble_eq_true rfl)
  rw [lg_entry_eq]
  generalize (lg_sl ([.ref b]) ++ List.replicate (4 - (lg_sl ([.ref b])).length) Slot.unset).toArray = ls at hl ⊢
  have hl : lv_has ls 4 [(0, .ref b)] := hl
  refine va_new (ci := 8) (fs := [.null, .null, .null, .null, .null, .null, .null, .null, .null, .null]) (C := RX8) (T := TX8) (N := 10) hx hb hts inX8 tyX8 tyX8_ok hown (hts (.classLink RL 7 RX8) (by decide +kernel)) (hts (.instantiable RX8 10) (by decide +kernel)) (hts (.initialized RX8) (by decide +kernel)) hK hP hD hS hA rfl (z_fs8) (Nat.le_of_ble_eq_true rfl) (Nat.le_of_ble_eq_true rfl) dL_law_0 (fun a1 H hP hD hS => ?_)
  have hP : va_P (dC, dI) vwCl ([(a1, .inr (8, [.null, .null, .null, .null, .null, .null, .null, .null, .null, .null]))]) H := hP
  have hD : va_D (fun q : Nat => s.heap.size ≤ q) ([(a1, .inr (8, [.null, .null, .null, .null, .null, .null, .null, .null, .null, .null]))]) := hD
  refine W.widen (k := 1) (n := 10) (by decide) (by decide) ?_
  refine lv_dup hx hb dL_law_3 rfl ?_
  refine z_finv (w' := fun (u0 : Nat → Nat) => [(a1, .inr (8, [.ref (u0 0), .ref (u0 2), .ref (u0 12), .ref (u0 22), .ref (u0 29), .ref (u0 36), .ref (u0 37), .ref (u0 38), .ref (u0 42), .ref (u0 43)])), (u0 0, .inr (7, [.ref (u0 1), .int 0, .int 0, .int (-1), .int 0, .int 0, .int 0, .int 0])), (u0 1, .inl (cB, 600, .inl (fun _ => 0))), (u0 2, .inr (3, [.int 0, .int 0, .int 0, .int 0, .int 0, .int 0, .int 0, .ref (u0 3), .ref (u0 4), .ref (u0 5), .ref (u0 6), .ref (u0 7), .ref (u0 8), .ref (u0 9), .ref (u0 10), .ref (u0 11)])), (u0 3, .inl (cI, 6, .inl (fun _ => 0))), (u0 4, .inl (cI, 6, .inl (fun _ => 0))), (u0 5, .inl (cI, 8, .inl (fun _ => 0))), (u0 6, .inl (cI, 8, .inl (fun _ => 0))), (u0 7, .inl (cI, 8, .inl (fun _ => 0))), (u0 8, .inl (cI, 8, .inl (fun _ => 0))), (u0 9, .inl (cI, 13, .inl (fun _ => (-1)))), (u0 10, .inl (cI, 120, .inl (fun _ => 0))), (u0 11, .inl (cI, 120, .inl (fun _ => 0))), (u0 12, .inr (3, [.int 0, .int 0, .int 0, .int 0, .int 0, .int 0, .int 0, .ref (u0 13), .ref (u0 14), .ref (u0 15), .ref (u0 16), .ref (u0 17), .ref (u0 18), .ref (u0 19), .ref (u0 20), .ref (u0 21)])), (u0 13, .inl (cI, 6, .inl (fun _ => 0))), (u0 14, .inl (cI, 6, .inl (fun _ => 0))), (u0 15, .inl (cI, 8, .inl (fun _ => 0))), (u0 16, .inl (cI, 8, .inl (fun _ => 0))), (u0 17, .inl (cI, 8, .inl (fun _ => 0))), (u0 18, .inl (cI, 8, .inl (fun _ => 0))), (u0 19, .inl (cI, 13, .inl (fun _ => (-1)))), (u0 20, .inl (cI, 120, .inl (fun _ => 0))), (u0 21, .inl (cI, 120, .inl (fun _ => 0))), (u0 22, .inr (5, [.int 0, .ref (u0 23), .ref (u0 24), .ref (u0 25), .ref (u0 26), .ref (u0 27), .ref (u0 28)])), (u0 23, .inl (cI, 200, .inl (fun _ => 0))), (u0 24, .inl (cI, 200, .inl (fun _ => 0))), (u0 25, .inl (cI, 200, .inl (fun _ => 0))), (u0 26, .inl (cI, 200, .inl (fun _ => 0))), (u0 27, .inl (cI, 200, .inl (fun _ => 0))), (u0 28, .inl (cI, 200, .inl (fun _ => 0))), (u0 29, .inr (5, [.int 0, .ref (u0 30), .ref (u0 31), .ref (u0 32), .ref (u0 33), .ref (u0 34), .ref (u0 35)])), (u0 30, .inl (cI, 200, .inl (fun _ => 0))), (u0 31, .inl (cI, 200, .inl (fun _ => 0))), (u0 32, .inl (cI, 200, .inl (fun _ => 0))), (u0 33, .inl (cI, 200, .inl (fun _ => 0))), (u0 34, .inl (cI, 200, .inl (fun _ => 0))), (u0 35, .inl (cI, 200, .inl (fun _ => 0))), (u0 36, .inr (0, [.long 0])), (u0 37, .inr (6, [.long 0, .long 0, .long 0, .long 0, .long 0, .long 0, .long 0, .long 0, .long 0, .long 0, .long 0])), (u0 38, .inr (1, [.ref (u0 39), .ref (u0 40), .ref (u0 41)])), (u0 39, .inl (cJ, 72, .inr (.inl (fun _ => 0)))), (u0 40, .inl (cJ, 72, .inr (.inl (fun _ => 0)))), (u0 41, .inl (cJ, 72, .inr (.inl (fun _ => 0)))), (u0 42, .inl (cP, 3, .inr (.inr (.inr (.inr (fun _ => none)))))), (u0 43, .inl (cQ, 4, .inr (.inr (.inr (.inr (va_up (va_up (va_up (va_up (fun _ => none) (Int32.toNatClampNeg 0) (some (u0 44))) (Int32.toNatClampNeg 1) (some (u0 46))) (Int32.toNatClampNeg 2) (some (u0 48))) (Int32.toNatClampNeg 3) (some (u0 50)))))))), (u0 44, .inr (4, [.int (-1), .int 0, .ref (u0 45)])), (u0 45, .inl (cJ, 60, .inr (.inl (fun _ => 0)))), (u0 46, .inr (4, [.int (-1), .int 0, .ref (u0 47)])), (u0 47, .inl (cJ, 60, .inr (.inl (fun _ => 0)))), (u0 48, .inr (4, [.int (-1), .int 0, .ref (u0 49)])), (u0 49, .inl (cJ, 60, .inr (.inl (fun _ => 0)))), (u0 50, .inr (4, [.int (-1), .int 0, .ref (u0 51)])), (u0 51, .inl (cJ, 60, .inr (.inl (fun _ => 0))))]) (va_runI (As := []) (rest := [.ref a1]) ⟨hx, hb, hml, hown, hts⟩ (c_X8_init_8 l dC dI cB cI cJ cZ cP cQ a1 H.size) (cwI 0 hts gT_X8_init rfl rfl rfl (hts (.initialized RX8) (by decide +kernel)) (hts (.methodLink RL 9 yX8_init) (by decide +kernel)) (hts (.instanceMethod yX8_init) (by decide +kernel)) rfl (by decide +kernel) ⟨Nat.le_of_ble_eq_true rfl, Nat.le_of_ble_eq_true rfl⟩) (z_pS hK hP hD (zX_sub hX (by decide +kernel) (by decide +kernel)) [0] (by decide) rfl) rfl rfl hl.1 rfl (lv_room (Nat.le_of_ble_eq_true rfl)) dL_law_4 ⟨Nat.le_of_ble_eq_true rfl, Nat.le_of_ble_eq_true rfl⟩) hP hD hS hA [0] [] [0, 1, 2, 3, 4, 5, 6, 7, 8, 9, 10, 11, 12, 13, 14, 15, 16, 17, 18, 19, 20, 21, 22, 23, 24, 25, 26, 27, 28, 29, 30, 31, 32, 33, 34, 35, 36, 37, 38, 39, 40, 41, 42, 43, 44, 45, 46, 47, 48, 49, 50, 51, 52] rfl rfl (by decide) (by decide) (fun _ => rfl) (by decide) (fun u0 H locs _ hP hD hS => ?_)
  have hP : va_P (dC, dI) vwCl [(a1, .inr (8, [.ref (u0 0), .ref (u0 2), .ref (u0 12), .ref (u0 22), .ref (u0 29), .ref (u0 36), .ref (u0 37), .ref (u0 38), .ref (u0 42), .ref (u0 43)])), (u0 0, .inr (7, [.ref (u0 1), .int 0, .int 0, .int (-1), .int 0, .int 0, .int 0, .int 0])), (u0 1, .inl (cB, 600, .inl (fun _ => 0))), (u0 2, .inr (3, [.int 0, .int 0, .int 0, .int 0, .int 0, .int 0, .int 0, .ref (u0 3), .ref (u0 4), .ref (u0 5), .ref (u0 6), .ref (u0 7), .ref (u0 8), .ref (u0 9), .ref (u0 10), .ref (u0 11)])), (u0 3, .inl (cI, 6, .inl (fun _ => 0))), (u0 4, .inl (cI, 6, .inl (fun _ => 0))), (u0 5, .inl (cI, 8, .inl (fun _ => 0))), (u0 6, .inl (cI, 8, .inl (fun _ => 0))), (u0 7, .inl (cI, 8, .inl (fun _ => 0))), (u0 8, .inl (cI, 8, .inl (fun _ => 0))), (u0 9, .inl (cI, 13, .inl (fun _ => (-1)))), (u0 10, .inl (cI, 120, .inl (fun _ => 0))), (u0 11, .inl (cI, 120, .inl (fun _ => 0))), (u0 12, .inr (3, [.int 0, .int 0, .int 0, .int 0, .int 0, .int 0, .int 0, .ref (u0 13), .ref (u0 14), .ref (u0 15), .ref (u0 16), .ref (u0 17), .ref (u0 18), .ref (u0 19), .ref (u0 20), .ref (u0 21)])), (u0 13, .inl (cI, 6, .inl (fun _ => 0))), (u0 14, .inl (cI, 6, .inl (fun _ => 0))), (u0 15, .inl (cI, 8, .inl (fun _ => 0))), (u0 16, .inl (cI, 8, .inl (fun _ => 0))), (u0 17, .inl (cI, 8, .inl (fun _ => 0))), (u0 18, .inl (cI, 8, .inl (fun _ => 0))), (u0 19, .inl (cI, 13, .inl (fun _ => (-1)))), (u0 20, .inl (cI, 120, .inl (fun _ => 0))), (u0 21, .inl (cI, 120, .inl (fun _ => 0))), (u0 22, .inr (5, [.int 0, .ref (u0 23), .ref (u0 24), .ref (u0 25), .ref (u0 26), .ref (u0 27), .ref (u0 28)])), (u0 23, .inl (cI, 200, .inl (fun _ => 0))), (u0 24, .inl (cI, 200, .inl (fun _ => 0))), (u0 25, .inl (cI, 200, .inl (fun _ => 0))), (u0 26, .inl (cI, 200, .inl (fun _ => 0))), (u0 27, .inl (cI, 200, .inl (fun _ => 0))), (u0 28, .inl (cI, 200, .inl (fun _ => 0))), (u0 29, .inr (5, [.int 0, .ref (u0 30), .ref (u0 31), .ref (u0 32), .ref (u0 33), .ref (u0 34), .ref (u0 35)])), (u0 30, .inl (cI, 200, .inl (fun _ => 0))), (u0 31, .inl (cI, 200, .inl (fun _ => 0))), (u0 32, .inl (cI, 200, .inl (fun _ => 0))), (u0 33, .inl (cI, 200, .inl (fun _ => 0))), (u0 34, .inl (cI, 200, .inl (fun _ => 0))), (u0 35, .inl (cI, 200, .inl (fun _ => 0))), (u0 36, .inr (0, [.long 0])), (u0 37, .inr (6, [.long 0, .long 0, .long 0, .long 0, .long 0, .long 0, .long 0, .long 0, .long 0, .long 0, .long 0])), (u0 38, .inr (1, [.ref (u0 39), .ref (u0 40), .ref (u0 41)])), (u0 39, .inl (cJ, 72, .inr (.inl (fun _ => 0)))), (u0 40, .inl (cJ, 72, .inr (.inl (fun _ => 0)))), (u0 41, .inl (cJ, 72, .inr (.inl (fun _ => 0)))), (u0 42, .inl (cP, 3, .inr (.inr (.inr (.inr (fun _ => none)))))), (u0 43, .inl (cQ, 4, .inr (.inr (.inr (.inr (va_up (va_up (va_up (va_up (fun _ => none) (Int32.toNatClampNeg 0) (some (u0 44))) (Int32.toNatClampNeg 1) (some (u0 46))) (Int32.toNatClampNeg 2) (some (u0 48))) (Int32.toNatClampNeg 3) (some (u0 50)))))))), (u0 44, .inr (4, [.int (-1), .int 0, .ref (u0 45)])), (u0 45, .inl (cJ, 60, .inr (.inl (fun _ => 0)))), (u0 46, .inr (4, [.int (-1), .int 0, .ref (u0 47)])), (u0 47, .inl (cJ, 60, .inr (.inl (fun _ => 0)))), (u0 48, .inr (4, [.int (-1), .int 0, .ref (u0 49)])), (u0 49, .inl (cJ, 60, .inr (.inl (fun _ => 0)))), (u0 50, .inr (4, [.int (-1), .int 0, .ref (u0 51)])), (u0 51, .inl (cJ, 60, .inr (.inl (fun _ => 0))))] H := hP
  have hD : va_D (fun q : Nat => s.heap.size ≤ q) [(a1, .inr (8, [.ref (u0 0), .ref (u0 2), .ref (u0 12), .ref (u0 22), .ref (u0 29), .ref (u0 36), .ref (u0 37), .ref (u0 38), .ref (u0 42), .ref (u0 43)])), (u0 0, .inr (7, [.ref (u0 1), .int 0, .int 0, .int (-1), .int 0, .int 0, .int 0, .int 0])), (u0 1, .inl (cB, 600, .inl (fun _ => 0))), (u0 2, .inr (3, [.int 0, .int 0, .int 0, .int 0, .int 0, .int 0, .int 0, .ref (u0 3), .ref (u0 4), .ref (u0 5), .ref (u0 6), .ref (u0 7), .ref (u0 8), .ref (u0 9), .ref (u0 10), .ref (u0 11)])), (u0 3, .inl (cI, 6, .inl (fun _ => 0))), (u0 4, .inl (cI, 6, .inl (fun _ => 0))), (u0 5, .inl (cI, 8, .inl (fun _ => 0))), (u0 6, .inl (cI, 8, .inl (fun _ => 0))), (u0 7, .inl (cI, 8, .inl (fun _ => 0))), (u0 8, .inl (cI, 8, .inl (fun _ => 0))), (u0 9, .inl (cI, 13, .inl (fun _ => (-1)))), (u0 10, .inl (cI, 120, .inl (fun _ => 0))), (u0 11, .inl (cI, 120, .inl (fun _ => 0))), (u0 12, .inr (3, [.int 0, .int 0, .int 0, .int 0, .int 0, .int 0, .int 0, .ref (u0 13), .ref (u0 14), .ref (u0 15), .ref (u0 16), .ref (u0 17), .ref (u0 18), .ref (u0 19), .ref (u0 20), .ref (u0 21)])), (u0 13, .inl (cI, 6, .inl (fun _ => 0))), (u0 14, .inl (cI, 6, .inl (fun _ => 0))), (u0 15, .inl (cI, 8, .inl (fun _ => 0))), (u0 16, .inl (cI, 8, .inl (fun _ => 0))), (u0 17, .inl (cI, 8, .inl (fun _ => 0))), (u0 18, .inl (cI, 8, .inl (fun _ => 0))), (u0 19, .inl (cI, 13, .inl (fun _ => (-1)))), (u0 20, .inl (cI, 120, .inl (fun _ => 0))), (u0 21, .inl (cI, 120, .inl (fun _ => 0))), (u0 22, .inr (5, [.int 0, .ref (u0 23), .ref (u0 24), .ref (u0 25), .ref (u0 26), .ref (u0 27), .ref (u0 28)])), (u0 23, .inl (cI, 200, .inl (fun _ => 0))), (u0 24, .inl (cI, 200, .inl (fun _ => 0))), (u0 25, .inl (cI, 200, .inl (fun _ => 0))), (u0 26, .inl (cI, 200, .inl (fun _ => 0))), (u0 27, .inl (cI, 200, .inl (fun _ => 0))), (u0 28, .inl (cI, 200, .inl (fun _ => 0))), (u0 29, .inr (5, [.int 0, .ref (u0 30), .ref (u0 31), .ref (u0 32), .ref (u0 33), .ref (u0 34), .ref (u0 35)])), (u0 30, .inl (cI, 200, .inl (fun _ => 0))), (u0 31, .inl (cI, 200, .inl (fun _ => 0))), (u0 32, .inl (cI, 200, .inl (fun _ => 0))), (u0 33, .inl (cI, 200, .inl (fun _ => 0))), (u0 34, .inl (cI, 200, .inl (fun _ => 0))), (u0 35, .inl (cI, 200, .inl (fun _ => 0))), (u0 36, .inr (0, [.long 0])), (u0 37, .inr (6, [.long 0, .long 0, .long 0, .long 0, .long 0, .long 0, .long 0, .long 0, .long 0, .long 0, .long 0])), (u0 38, .inr (1, [.ref (u0 39), .ref (u0 40), .ref (u0 41)])), (u0 39, .inl (cJ, 72, .inr (.inl (fun _ => 0)))), (u0 40, .inl (cJ, 72, .inr (.inl (fun _ => 0)))), (u0 41, .inl (cJ, 72, .inr (.inl (fun _ => 0)))), (u0 42, .inl (cP, 3, .inr (.inr (.inr (.inr (fun _ => none)))))), (u0 43, .inl (cQ, 4, .inr (.inr (.inr (.inr (va_up (va_up (va_up (va_up (fun _ => none) (Int32.toNatClampNeg 0) (some (u0 44))) (Int32.toNatClampNeg 1) (some (u0 46))) (Int32.toNatClampNeg 2) (some (u0 48))) (Int32.toNatClampNeg 3) (some (u0 50)))))))), (u0 44, .inr (4, [.int (-1), .int 0, .ref (u0 45)])), (u0 45, .inl (cJ, 60, .inr (.inl (fun _ => 0)))), (u0 46, .inr (4, [.int (-1), .int 0, .ref (u0 47)])), (u0 47, .inl (cJ, 60, .inr (.inl (fun _ => 0)))), (u0 48, .inr (4, [.int (-1), .int 0, .ref (u0 49)])), (u0 49, .inl (cJ, 60, .inr (.inl (fun _ => 0)))), (u0 50, .inr (4, [.int (-1), .int 0, .ref (u0 51)])), (u0 51, .inl (cJ, 60, .inr (.inl (fun _ => 0))))] := hD
  obtain ⟨hP, hD⟩ := z_arrQ (g := zQ4 (u0 44) (u0 46) (u0 48) (u0 50)) hP hD 44 rfl (fun j hj => by rcases (show j = 0 ∨ j = 1 ∨ j = 2 ∨ j = 3 by omega) with rfl | rfl | rfl | rfl <;> rfl)
  have hP : va_P (dC, dI) vwCl [(a1, .inr (8, [.ref (u0 0), .ref (u0 2), .ref (u0 12), .ref (u0 22), .ref (u0 29), .ref (u0 36), .ref (u0 37), .ref (u0 38), .ref (u0 42), .ref (u0 43)])), (u0 0, .inr (7, [.ref (u0 1), .int 0, .int 0, .int (-1), .int 0, .int 0, .int 0, .int 0])), (u0 1, .inl (cB, 600, .inl (fun _ => 0))), (u0 2, .inr (3, [.int 0, .int 0, .int 0, .int 0, .int 0, .int 0, .int 0, .ref (u0 3), .ref (u0 4), .ref (u0 5), .ref (u0 6), .ref (u0 7), .ref (u0 8), .ref (u0 9), .ref (u0 10), .ref (u0 11)])), (u0 3, .inl (cI, 6, .inl (fun _ => 0))), (u0 4, .inl (cI, 6, .inl (fun _ => 0))), (u0 5, .inl (cI, 8, .inl (fun _ => 0))), (u0 6, .inl (cI, 8, .inl (fun _ => 0))), (u0 7, .inl (cI, 8, .inl (fun _ => 0))), (u0 8, .inl (cI, 8, .inl (fun _ => 0))), (u0 9, .inl (cI, 13, .inl (fun _ => (-1)))), (u0 10, .inl (cI, 120, .inl (fun _ => 0))), (u0 11, .inl (cI, 120, .inl (fun _ => 0))), (u0 12, .inr (3, [.int 0, .int 0, .int 0, .int 0, .int 0, .int 0, .int 0, .ref (u0 13), .ref (u0 14), .ref (u0 15), .ref (u0 16), .ref (u0 17), .ref (u0 18), .ref (u0 19), .ref (u0 20), .ref (u0 21)])), (u0 13, .inl (cI, 6, .inl (fun _ => 0))), (u0 14, .inl (cI, 6, .inl (fun _ => 0))), (u0 15, .inl (cI, 8, .inl (fun _ => 0))), (u0 16, .inl (cI, 8, .inl (fun _ => 0))), (u0 17, .inl (cI, 8, .inl (fun _ => 0))), (u0 18, .inl (cI, 8, .inl (fun _ => 0))), (u0 19, .inl (cI, 13, .inl (fun _ => (-1)))), (u0 20, .inl (cI, 120, .inl (fun _ => 0))), (u0 21, .inl (cI, 120, .inl (fun _ => 0))), (u0 22, .inr (5, [.int 0, .ref (u0 23), .ref (u0 24), .ref (u0 25), .ref (u0 26), .ref (u0 27), .ref (u0 28)])), (u0 23, .inl (cI, 200, .inl (fun _ => 0))), (u0 24, .inl (cI, 200, .inl (fun _ => 0))), (u0 25, .inl (cI, 200, .inl (fun _ => 0))), (u0 26, .inl (cI, 200, .inl (fun _ => 0))), (u0 27, .inl (cI, 200, .inl (fun _ => 0))), (u0 28, .inl (cI, 200, .inl (fun _ => 0))), (u0 29, .inr (5, [.int 0, .ref (u0 30), .ref (u0 31), .ref (u0 32), .ref (u0 33), .ref (u0 34), .ref (u0 35)])), (u0 30, .inl (cI, 200, .inl (fun _ => 0))), (u0 31, .inl (cI, 200, .inl (fun _ => 0))), (u0 32, .inl (cI, 200, .inl (fun _ => 0))), (u0 33, .inl (cI, 200, .inl (fun _ => 0))), (u0 34, .inl (cI, 200, .inl (fun _ => 0))), (u0 35, .inl (cI, 200, .inl (fun _ => 0))), (u0 36, .inr (0, [.long 0])), (u0 37, .inr (6, [.long 0, .long 0, .long 0, .long 0, .long 0, .long 0, .long 0, .long 0, .long 0, .long 0, .long 0])), (u0 38, .inr (1, [.ref (u0 39), .ref (u0 40), .ref (u0 41)])), (u0 39, .inl (cJ, 72, .inr (.inl (fun _ => 0)))), (u0 40, .inl (cJ, 72, .inr (.inl (fun _ => 0)))), (u0 41, .inl (cJ, 72, .inr (.inl (fun _ => 0)))), (u0 42, .inl (cP, 3, .inr (.inr (.inr (.inr (fun _ => none)))))), (u0 43, .inl (cQ, 4, .inr (.inr (.inr (.inr (zQ4 (u0 44) (u0 46) (u0 48) (u0 50))))))), (u0 44, .inr (4, [.int (-1), .int 0, .ref (u0 45)])), (u0 45, .inl (cJ, 60, .inr (.inl (fun _ => 0)))), (u0 46, .inr (4, [.int (-1), .int 0, .ref (u0 47)])), (u0 47, .inl (cJ, 60, .inr (.inl (fun _ => 0)))), (u0 48, .inr (4, [.int (-1), .int 0, .ref (u0 49)])), (u0 49, .inl (cJ, 60, .inr (.inl (fun _ => 0)))), (u0 50, .inr (4, [.int (-1), .int 0, .ref (u0 51)])), (u0 51, .inl (cJ, 60, .inr (.inl (fun _ => 0))))] H := hP
  have hD : va_D (fun q : Nat => s.heap.size ≤ q) [(a1, .inr (8, [.ref (u0 0), .ref (u0 2), .ref (u0 12), .ref (u0 22), .ref (u0 29), .ref (u0 36), .ref (u0 37), .ref (u0 38), .ref (u0 42), .ref (u0 43)])), (u0 0, .inr (7, [.ref (u0 1), .int 0, .int 0, .int (-1), .int 0, .int 0, .int 0, .int 0])), (u0 1, .inl (cB, 600, .inl (fun _ => 0))), (u0 2, .inr (3, [.int 0, .int 0, .int 0, .int 0, .int 0, .int 0, .int 0, .ref (u0 3), .ref (u0 4), .ref (u0 5), .ref (u0 6), .ref (u0 7), .ref (u0 8), .ref (u0 9), .ref (u0 10), .ref (u0 11)])), (u0 3, .inl (cI, 6, .inl (fun _ => 0))), (u0 4, .inl (cI, 6, .inl (fun _ => 0))), (u0 5, .inl (cI, 8, .inl (fun _ => 0))), (u0 6, .inl (cI, 8, .inl (fun _ => 0))), (u0 7, .inl (cI, 8, .inl (fun _ => 0))), (u0 8, .inl (cI, 8, .inl (fun _ => 0))), (u0 9, .inl (cI, 13, .inl (fun _ => (-1)))), (u0 10, .inl (cI, 120, .inl (fun _ => 0))), (u0 11, .inl (cI, 120, .inl (fun _ => 0))), (u0 12, .inr (3, [.int 0, .int 0, .int 0, .int 0, .int 0, .int 0, .int 0, .ref (u0 13), .ref (u0 14), .ref (u0 15), .ref (u0 16), .ref (u0 17), .ref (u0 18), .ref (u0 19), .ref (u0 20), .ref (u0 21)])), (u0 13, .inl (cI, 6, .inl (fun _ => 0))), (u0 14, .inl (cI, 6, .inl (fun _ => 0))), (u0 15, .inl (cI, 8, .inl (fun _ => 0))), (u0 16, .inl (cI, 8, .inl (fun _ => 0))), (u0 17, .inl (cI, 8, .inl (fun _ => 0))), (u0 18, .inl (cI, 8, .inl (fun _ => 0))), (u0 19, .inl (cI, 13, .inl (fun _ => (-1)))), (u0 20, .inl (cI, 120, .inl (fun _ => 0))), (u0 21, .inl (cI, 120, .inl (fun _ => 0))), (u0 22, .inr (5, [.int 0, .ref (u0 23), .ref (u0 24), .ref (u0 25), .ref (u0 26), .ref (u0 27), .ref (u0 28)])), (u0 23, .inl (cI, 200, .inl (fun _ => 0))), (u0 24, .inl (cI, 200, .inl (fun _ => 0))), (u0 25, .inl (cI, 200, .inl (fun _ => 0))), (u0 26, .inl (cI, 200, .inl (fun _ => 0))), (u0 27, .inl (cI, 200, .inl (fun _ => 0))), (u0 28, .inl (cI, 200, .inl (fun _ => 0))), (u0 29, .inr (5, [.int 0, .ref (u0 30), .ref (u0 31), .ref (u0 32), .ref (u0 33), .ref (u0 34), .ref (u0 35)])), (u0 30, .inl (cI, 200, .inl (fun _ => 0))), (u0 31, .inl (cI, 200, .inl (fun _ => 0))), (u0 32, .inl (cI, 200, .inl (fun _ => 0))), (u0 33, .inl (cI, 200, .inl (fun _ => 0))), (u0 34, .inl (cI, 200, .inl (fun _ => 0))), (u0 35, .inl (cI, 200, .inl (fun _ => 0))), (u0 36, .inr (0, [.long 0])), (u0 37, .inr (6, [.long 0, .long 0, .long 0, .long 0, .long 0, .long 0, .long 0, .long 0, .long 0, .long 0, .long 0])), (u0 38, .inr (1, [.ref (u0 39), .ref (u0 40), .ref (u0 41)])), (u0 39, .inl (cJ, 72, .inr (.inl (fun _ => 0)))), (u0 40, .inl (cJ, 72, .inr (.inl (fun _ => 0)))), (u0 41, .inl (cJ, 72, .inr (.inl (fun _ => 0)))), (u0 42, .inl (cP, 3, .inr (.inr (.inr (.inr (fun _ => none)))))), (u0 43, .inl (cQ, 4, .inr (.inr (.inr (.inr (zQ4 (u0 44) (u0 46) (u0 48) (u0 50))))))), (u0 44, .inr (4, [.int (-1), .int 0, .ref (u0 45)])), (u0 45, .inl (cJ, 60, .inr (.inl (fun _ => 0)))), (u0 46, .inr (4, [.int (-1), .int 0, .ref (u0 47)])), (u0 47, .inl (cJ, 60, .inr (.inl (fun _ => 0)))), (u0 48, .inr (4, [.int (-1), .int 0, .ref (u0 49)])), (u0 49, .inl (cJ, 60, .inr (.inl (fun _ => 0)))), (u0 50, .inr (4, [.int (-1), .int 0, .ref (u0 51)])), (u0 51, .inl (cJ, 60, .inr (.inl (fun _ => 0))))] := hD
  refine W.widen (k := 53) (n := 4148) (by decide) (by decide) ?_
  refine lv_astore_n (lv' := [(1, .ref a1), (0, .ref b)]) hx hb dL_law_7 rfl hl (by decide) rfl (fun ls hl => ?_)
  refine va_new (ci := 9) (fs := [.int 0, .null, .null, .null, .null, .null, .int 0, .int 0, .int 0, .int 0, .int 0, .long 0, .int 0, .int 0, .int 0, .int 0, .null, .null, .null, .null, .null, .null, .null, .null, .null, .null, .null, .null, .null, .null, .null, .null, .null, .null, .null, .null, .null, .null, .null, .null, .null, .null, .long 0, .int 0, .long 0, .long 0, .long 0, .long 0, .long 0, .long 0, .long 0, .long 0, .null, .int 0, .null, .null, .null, .long 0, .long 0, .null]) (C := RX9) (T := TX9) (N := 60) hx hb hts inX9 tyX9 tyX9_ok hown (hts (.classLink RL 10 RX9) (by decide +kernel)) (hts (.instantiable RX9 60) (by decide +kernel)) (hts (.initialized RX9) (by decide +kernel)) hK hP hD hS hA rfl (z_fs9) (Nat.le_of_ble_eq_true rfl) (Nat.le_of_ble_eq_true rfl) dL_law_8 (fun a2 H hP hD hS => ?_)
  have hP : va_P (dC, dI) vwCl ([(a1, .inr (8, [.ref (u0 0), .ref (u0 2), .ref (u0 12), .ref (u0 22), .ref (u0 29), .ref (u0 36), .ref (u0 37), .ref (u0 38), .ref (u0 42), .ref (u0 43)])), (u0 0, .inr (7, [.ref (u0 1), .int 0, .int 0, .int (-1), .int 0, .int 0, .int 0, .int 0])), (u0 1, .inl (cB, 600, .inl (fun _ => 0))), (u0 2, .inr (3, [.int 0, .int 0, .int 0, .int 0, .int 0, .int 0, .int 0, .ref (u0 3), .ref (u0 4), .ref (u0 5), .ref (u0 6), .ref (u0 7), .ref (u0 8), .ref (u0 9), .ref (u0 10), .ref (u0 11)])), (u0 3, .inl (cI, 6, .inl (fun _ => 0))), (u0 4, .inl (cI, 6, .inl (fun _ => 0))), (u0 5, .inl (cI, 8, .inl (fun _ => 0))), (u0 6, .inl (cI, 8, .inl (fun _ => 0))), (u0 7, .inl (cI, 8, .inl (fun _ => 0))), (u0 8, .inl (cI, 8, .inl (fun _ => 0))), (u0 9, .inl (cI, 13, .inl (fun _ => (-1)))), (u0 10, .inl (cI, 120, .inl (fun _ => 0))), (u0 11, .inl (cI, 120, .inl (fun _ => 0))), (u0 12, .inr (3, [.int 0, .int 0, .int 0, .int 0, .int 0, .int 0, .int 0, .ref (u0 13), .ref (u0 14), .ref (u0 15), .ref (u0 16), .ref (u0 17), .ref (u0 18), .ref (u0 19), .ref (u0 20), .ref (u0 21)])), (u0 13, .inl (cI, 6, .inl (fun _ => 0))), (u0 14, .inl (cI, 6, .inl (fun _ => 0))), (u0 15, .inl (cI, 8, .inl (fun _ => 0))), (u0 16, .inl (cI, 8, .inl (fun _ => 0))), (u0 17, .inl (cI, 8, .inl (fun _ => 0))), (u0 18, .inl (cI, 8, .inl (fun _ => 0))), (u0 19, .inl (cI, 13, .inl (fun _ => (-1)))), (u0 20, .inl (cI, 120, .inl (fun _ => 0))), (u0 21, .inl (cI, 120, .inl (fun _ => 0))), (u0 22, .inr (5, [.int 0, .ref (u0 23), .ref (u0 24), .ref (u0 25), .ref (u0 26), .ref (u0 27), .ref (u0 28)])), (u0 23, .inl (cI, 200, .inl (fun _ => 0))), (u0 24, .inl (cI, 200, .inl (fun _ => 0))), (u0 25, .inl (cI, 200, .inl (fun _ => 0))), (u0 26, .inl (cI, 200, .inl (fun _ => 0))), (u0 27, .inl (cI, 200, .inl (fun _ => 0))), (u0 28, .inl (cI, 200, .inl (fun _ => 0))), (u0 29, .inr (5, [.int 0, .ref (u0 30), .ref (u0 31), .ref (u0 32), .ref (u0 33), .ref (u0 34), .ref (u0 35)])), (u0 30, .inl (cI, 200, .inl (fun _ => 0))), (u0 31, .inl (cI, 200, .inl (fun _ => 0))), (u0 32, .inl (cI, 200, .inl (fun _ => 0))), (u0 33, .inl (cI, 200, .inl (fun _ => 0))), (u0 34, .inl (cI, 200, .inl (fun _ => 0))), (u0 35, .inl (cI, 200, .inl (fun _ => 0))), (u0 36, .inr (0, [.long 0])), (u0 37, .inr (6, [.long 0, .long 0, .long 0, .long 0, .long 0, .long 0, .long 0, .long 0, .long 0, .long 0, .long 0])), (u0 38, .inr (1, [.ref (u0 39), .ref (u0 40), .ref (u0 41)])), (u0 39, .inl (cJ, 72, .inr (.inl (fun _ => 0)))), (u0 40, .inl (cJ, 72, .inr (.inl (fun _ => 0)))), (u0 41, .inl (cJ, 72, .inr (.inl (fun _ => 0)))), (u0 42, .inl (cP, 3, .inr (.inr (.inr (.inr (fun _ => none)))))), (u0 43, .inl (cQ, 4, .inr (.inr (.inr (.inr (zQ4 (u0 44) (u0 46) (u0 48) (u0 50))))))), (u0 44, .inr (4, [.int (-1), .int 0, .ref (u0 45)])), (u0 45, .inl (cJ, 60, .inr (.inl (fun _ => 0)))), (u0 46, .inr (4, [.int (-1), .int 0, .ref (u0 47)])), (u0 47, .inl (cJ, 60, .inr (.inl (fun _ => 0)))), (u0 48, .inr (4, [.int (-1), .int 0, .ref (u0 49)])), (u0 49, .inl (cJ, 60, .inr (.inl (fun _ => 0)))), (u0 50, .inr (4, [.int (-1), .int 0, .ref (u0 51)])), (u0 51, .inl (cJ, 60, .inr (.inl (fun _ => 0))))] ++ [(a2, .inr (9, [.int 0, .null, .null, .null, .null, .null, .int 0, .int 0, .int 0, .int 0, .int 0, .long 0, .int 0, .int 0, .int 0, .int 0, .null, .null, .null, .null, .null, .null, .null, .null, .null, .null, .null, .null, .null, .null, .null, .null, .null, .null, .null, .null, .null, .null, .null, .null, .null, .null, .long 0, .int 0, .long 0, .long 0, .long 0, .long 0, .long 0, .long 0, .long 0, .long 0, .null, .int 0, .null, .null, .null, .long 0, .long 0, .null]))]) H := hP
  have hD : va_D (fun q : Nat => s.heap.size ≤ q) ([(a1, .inr (8, [.ref (u0 0), .ref (u0 2), .ref (u0 12), .ref (u0 22), .ref (u0 29), .ref (u0 36), .ref (u0 37), .ref (u0 38), .ref (u0 42), .ref (u0 43)])), (u0 0, .inr (7, [.ref (u0 1), .int 0, .int 0, .int (-1), .int 0, .int 0, .int 0, .int 0])), (u0 1, .inl (cB, 600, .inl (fun _ => 0))), (u0 2, .inr (3, [.int 0, .int 0, .int 0, .int 0, .int 0, .int 0, .int 0, .ref (u0 3), .ref (u0 4), .ref (u0 5), .ref (u0 6), .ref (u0 7), .ref (u0 8), .ref (u0 9), .ref (u0 10), .ref (u0 11)])), (u0 3, .inl (cI, 6, .inl (fun _ => 0))), (u0 4, .inl (cI, 6, .inl (fun _ => 0))), (u0 5, .inl (cI, 8, .inl (fun _ => 0))), (u0 6, .inl (cI, 8, .inl (fun _ => 0))), (u0 7, .inl (cI, 8, .inl (fun _ => 0))), (u0 8, .inl (cI, 8, .inl (fun _ => 0))), (u0 9, .inl (cI, 13, .inl (fun _ => (-1)))), (u0 10, .inl (cI, 120, .inl (fun _ => 0))), (u0 11, .inl (cI, 120, .inl (fun _ => 0))), (u0 12, .inr (3, [.int 0, .int 0, .int 0, .int 0, .int 0, .int 0, .int 0, .ref (u0 13), .ref (u0 14), .ref (u0 15), .ref (u0 16), .ref (u0 17), .ref (u0 18), .ref (u0 19), .ref (u0 20), .ref (u0 21)])), (u0 13, .inl (cI, 6, .inl (fun _ => 0))), (u0 14, .inl (cI, 6, .inl (fun _ => 0))), (u0 15, .inl (cI, 8, .inl (fun _ => 0))), (u0 16, .inl (cI, 8, .inl (fun _ => 0))), (u0 17, .inl (cI, 8, .inl (fun _ => 0))), (u0 18, .inl (cI, 8, .inl (fun _ => 0))), (u0 19, .inl (cI, 13, .inl (fun _ => (-1)))), (u0 20, .inl (cI, 120, .inl (fun _ => 0))), (u0 21, .inl (cI, 120, .inl (fun _ => 0))), (u0 22, .inr (5, [.int 0, .ref (u0 23), .ref (u0 24), .ref (u0 25), .ref (u0 26), .ref (u0 27), .ref (u0 28)])), (u0 23, .inl (cI, 200, .inl (fun _ => 0))), (u0 24, .inl (cI, 200, .inl (fun _ => 0))), (u0 25, .inl (cI, 200, .inl (fun _ => 0))), (u0 26, .inl (cI, 200, .inl (fun _ => 0))), (u0 27, .inl (cI, 200, .inl (fun _ => 0))), (u0 28, .inl (cI, 200, .inl (fun _ => 0))), (u0 29, .inr (5, [.int 0, .ref (u0 30), .ref (u0 31), .ref (u0 32), .ref (u0 33), .ref (u0 34), .ref (u0 35)])), (u0 30, .inl (cI, 200, .inl (fun _ => 0))), (u0 31, .inl (cI, 200, .inl (fun _ => 0))), (u0 32, .inl (cI, 200, .inl (fun _ => 0))), (u0 33, .inl (cI, 200, .inl (fun _ => 0))), (u0 34, .inl (cI, 200, .inl (fun _ => 0))), (u0 35, .inl (cI, 200, .inl (fun _ => 0))), (u0 36, .inr (0, [.long 0])), (u0 37, .inr (6, [.long 0, .long 0, .long 0, .long 0, .long 0, .long 0, .long 0, .long 0, .long 0, .long 0, .long 0])), (u0 38, .inr (1, [.ref (u0 39), .ref (u0 40), .ref (u0 41)])), (u0 39, .inl (cJ, 72, .inr (.inl (fun _ => 0)))), (u0 40, .inl (cJ, 72, .inr (.inl (fun _ => 0)))), (u0 41, .inl (cJ, 72, .inr (.inl (fun _ => 0)))), (u0 42, .inl (cP, 3, .inr (.inr (.inr (.inr (fun _ => none)))))), (u0 43, .inl (cQ, 4, .inr (.inr (.inr (.inr (zQ4 (u0 44) (u0 46) (u0 48) (u0 50))))))), (u0 44, .inr (4, [.int (-1), .int 0, .ref (u0 45)])), (u0 45, .inl (cJ, 60, .inr (.inl (fun _ => 0)))), (u0 46, .inr (4, [.int (-1), .int 0, .ref (u0 47)])), (u0 47, .inl (cJ, 60, .inr (.inl (fun _ => 0)))), (u0 48, .inr (4, [.int (-1), .int 0, .ref (u0 49)])), (u0 49, .inl (cJ, 60, .inr (.inl (fun _ => 0)))), (u0 50, .inr (4, [.int (-1), .int 0, .ref (u0 51)])), (u0 51, .inl (cJ, 60, .inr (.inl (fun _ => 0))))] ++ [(a2, .inr (9, [.int 0, .null, .null, .null, .null, .null, .int 0, .int 0, .int 0, .int 0, .int 0, .long 0, .int 0, .int 0, .int 0, .int 0, .null, .null, .null, .null, .null, .null, .null, .null, .null, .null, .null, .null, .null, .null, .null, .null, .null, .null, .null, .null, .null, .null, .null, .null, .null, .null, .long 0, .int 0, .long 0, .long 0, .long 0, .long 0, .long 0, .long 0, .long 0, .long 0, .null, .int 0, .null, .null, .null, .long 0, .long 0, .null]))]) := hD
  refine W.widen (k := 54) (n := 4208) (by decide) (by decide) ?_
  refine lv_dup hx hb dL_law_11 rfl ?_
  refine z_finv (w' := fun (u1 : Nat → Nat) => [(a1, .inr (8, [.ref (u0 0), .ref (u0 2), .ref (u0 12), .ref (u0 22), .ref (u0 29), .ref (u0 36), .ref (u0 37), .ref (u0 38), .ref (u0 42), .ref (u0 43)])), (u0 0, .inr (7, [.ref (u0 1), .int 0, .int 0, .int (-1), .int 0, .int 0, .int 0, .int 0])), (u0 1, .inl (cB, 600, .inl (fun _ => 0))), (u0 2, .inr (3, [.int 0, .int 0, .int 0, .int 0, .int 0, .int 0, .int 0, .ref (u0 3), .ref (u0 4), .ref (u0 5), .ref (u0 6), .ref (u0 7), .ref (u0 8), .ref (u0 9), .ref (u0 10), .ref (u0 11)])), (u0 3, .inl (cI, 6, .inl (fun _ => 0))), (u0 4, .inl (cI, 6, .inl (fun _ => 0))), (u0 5, .inl (cI, 8, .inl (fun _ => 0))), (u0 6, .inl (cI, 8, .inl (fun _ => 0))), (u0 7, .inl (cI, 8, .inl (fun _ => 0))), (u0 8, .inl (cI, 8, .inl (fun _ => 0))), (u0 9, .inl (cI, 13, .inl (fun _ => (-1)))), (u0 10, .inl (cI, 120, .inl (fun _ => 0))), (u0 11, .inl (cI, 120, .inl (fun _ => 0))), (u0 12, .inr (3, [.int 0, .int 0, .int 0, .int 0, .int 0, .int 0, .int 0, .ref (u0 13), .ref (u0 14), .ref (u0 15), .ref (u0 16), .ref (u0 17), .ref (u0 18), .ref (u0 19), .ref (u0 20), .ref (u0 21)])), (u0 13, .inl (cI, 6, .inl (fun _ => 0))), (u0 14, .inl (cI, 6, .inl (fun _ => 0))), (u0 15, .inl (cI, 8, .inl (fun _ => 0))), (u0 16, .inl (cI, 8, .inl (fun _ => 0))), (u0 17, .inl (cI, 8, .inl (fun _ => 0))), (u0 18, .inl (cI, 8, .inl (fun _ => 0))), (u0 19, .inl (cI, 13, .inl (fun _ => (-1)))), (u0 20, .inl (cI, 120, .inl (fun _ => 0))), (u0 21, .inl (cI, 120, .inl (fun _ => 0))), (u0 22, .inr (5, [.int 0, .ref (u0 23), .ref (u0 24), .ref (u0 25), .ref (u0 26), .ref (u0 27), .ref (u0 28)])), (u0 23, .inl (cI, 200, .inl (fun _ => 0))), (u0 24, .inl (cI, 200, .inl (fun _ => 0))), (u0 25, .inl (cI, 200, .inl (fun _ => 0))), (u0 26, .inl (cI, 200, .inl (fun _ => 0))), (u0 27, .inl (cI, 200, .inl (fun _ => 0))), (u0 28, .inl (cI, 200, .inl (fun _ => 0))), (u0 29, .inr (5, [.int 0, .ref (u0 30), .ref (u0 31), .ref (u0 32), .ref (u0 33), .ref (u0 34), .ref (u0 35)])), (u0 30, .inl (cI, 200, .inl (fun _ => 0))), (u0 31, .inl (cI, 200, .inl (fun _ => 0))), (u0 32, .inl (cI, 200, .inl (fun _ => 0))), (u0 33, .inl (cI, 200, .inl (fun _ => 0))), (u0 34, .inl (cI, 200, .inl (fun _ => 0))), (u0 35, .inl (cI, 200, .inl (fun _ => 0))), (u0 36, .inr (0, [.long 0])), (u0 37, .inr (6, [.long 0, .long 0, .long 0, .long 0, .long 0, .long 0, .long 0, .long 0, .long 0, .long 0, .long 0])), (u0 38, .inr (1, [.ref (u0 39), .ref (u0 40), .ref (u0 41)])), (u0 39, .inl (cJ, 72, .inr (.inl (fun _ => 0)))), (u0 40, .inl (cJ, 72, .inr (.inl (fun _ => 0)))), (u0 41, .inl (cJ, 72, .inr (.inl (fun _ => 0)))), (u0 42, .inl (cP, 3, .inr (.inr (.inr (.inr (fun _ => none)))))), (u0 43, .inl (cQ, 4, .inr (.inr (.inr (.inr (zQ4 (u0 44) (u0 46) (u0 48) (u0 50))))))), (u0 44, .inr (4, [.int (-1), .int 0, .ref (u0 45)])), (u0 45, .inl (cJ, 60, .inr (.inl (fun _ => 0)))), (u0 46, .inr (4, [.int (-1), .int 0, .ref (u0 47)])), (u0 47, .inl (cJ, 60, .inr (.inl (fun _ => 0)))), (u0 48, .inr (4, [.int (-1), .int 0, .ref (u0 49)])), (u0 49, .inl (cJ, 60, .inr (.inl (fun _ => 0)))), (u0 50, .inr (4, [.int (-1), .int 0, .ref (u0 51)])), (u0 51, .inl (cJ, 60, .inr (.inl (fun _ => 0))))] ++ [(a2, .inr (9, [.int 0, .ref (u1 0), .ref (u1 1), .ref (u1 2), .ref (u1 3), .ref (u1 4), .int 0, .int 0, .int 0, .int 0, .int 0, .long 0, .int 0, .int 0, .int 0, .int (-1), .ref (u1 5), .ref (u1 6), .ref (u1 7), .ref (u1 8), .ref (u1 9), .ref (u1 10), .ref (u1 11), .ref (u1 12), .ref (u1 13), .ref (u1 14), .ref (u1 15), .ref (u1 16), .ref (u1 17), .ref (u1 18), .ref (u1 19), .ref (u1 20), .ref (u1 21), .ref (u1 22), .ref (u1 23), .ref (u1 24), .ref (u1 25), .ref (u1 26), .ref (u1 27), .ref (u1 28), .ref (u1 29), .ref (u1 30), .long 0, .int 0, .long 0, .long 0, .long 0, .long 0, .long 0, .long 0, .long 0, .long 0, .ref (u1 31), .int 0, .ref (u1 32), .ref (u1 33), .ref (u1 34), .long 0, .long 0, .ref (u1 35)])), (u1 0, .inl (cI, 4, .inl (fun _ => (-1)))), (u1 1, .inl (cI, 4, .inl (fun _ => 0))), (u1 2, .inl (cJ, 240, .inr (.inl (fun _ => 0)))), (u1 3, .inl (cJ, 60, .inr (.inl (fun _ => 0)))), (u1 4, .inl (cB, 600, .inl (fun _ => 0))), (u1 5, .inl (cI, 5, .inl (fun _ => 0))), (u1 6, .inl (cI, 5, .inl (fun _ => 0))), (u1 7, .inl (cI, 30, .inl (fun _ => 0))), (u1 8, .inl (cI, 30, .inl (fun _ => 0))), (u1 9, .inl (cI, 5, .inl (fun _ => 0))), (u1 10, .inl (cI, 40, .inl (fun _ => 0))), (u1 11, .inl (cI, 40, .inl (fun _ => 0))), (u1 12, .inl (cI, 40, .inl (fun _ => 0))), (u1 13, .inl (cI, 40, .inl (fun _ => 0))), (u1 14, .inl (cZ, 60, .inl (fun _ => 0))), (u1 15, .inl (cI, 60, .inl (fun _ => 0))), (u1 16, .inl (cZ, 5, .inl (fun _ => 0))), (u1 17, .inl (cZ, 5, .inl (fun _ => 0))), (u1 18, .inl (cI, 5, .inl (fun _ => 0))), (u1 19, .inl (cI, 5, .inl (fun _ => 0))), (u1 20, .inl (cI, 5, .inl (fun _ => 0))), (u1 21, .inl (cI, 1600, .inl (fun _ => 0))), (u1 22, .inl (cZ, 3, .inl (fun _ => 0))), (u1 23, .inl (cJ, 320, .inr (.inl (fun _ => 0)))), (u1 24, .inl (cI, 5, .inl (fun _ => 0))), (u1 25, .inl (cI, 1000, .inl (fun _ => 0))), (u1 26, .inl (cI, 1000, .inl (fun _ => 0))), (u1 27, .inl (cI, 1000, .inl (fun _ => 0))), (u1 28, .inl (cI, 1000, .inl (fun _ => 0))), (u1 29, .inl (cI, 1000, .inl (fun _ => 0))), (u1 30, .inl (cI, 1000, .inl (fun _ => 0))), (u1 31, .inl (cZ, 200, .inl (fun _ => 0))), (u1 32, .inl (cJ, 72, .inr (.inl (fun _ => 0)))), (u1 33, .inl (cJ, 72, .inr (.inl (fun _ => 0)))), (u1 34, .inl (cJ, 72, .inr (.inl (fun _ => 0)))), (u1 35, .inl (cZ, 199, .inl (fun _ => 0)))]) (va_runI (As := []) (rest := [.ref a2]) ⟨hx, hb, hml, hown, hts⟩ (c_X9_init_9 l dC dI cB cI cJ cZ cP cQ a2 H.size) (cwI 0 hts gT_X9_init rfl rfl rfl (hts (.initialized RX9) (by decide +kernel)) (hts (.methodLink RL 12 yX9_init) (by decide +kernel)) (hts (.instanceMethod yX9_init) (by decide +kernel)) rfl (by decide +kernel) ⟨Nat.le_of_ble_eq_true rfl, Nat.le_of_ble_eq_true rfl⟩) (z_pS hK hP hD (zX_sub hX (by decide +kernel) (by decide +kernel)) [53] (by decide) rfl) rfl rfl hl.1 rfl (lv_room (Nat.le_of_ble_eq_true rfl)) dL_law_12 ⟨Nat.le_of_ble_eq_true rfl, Nat.le_of_ble_eq_true rfl⟩) hP hD hS hA [53] [0, 1, 2, 3, 4, 5, 6, 7, 8, 9, 10, 11, 12, 13, 14, 15, 16, 17, 18, 19, 20, 21, 22, 23, 24, 25, 26, 27, 28, 29, 30, 31, 32, 33, 34, 35, 36, 37, 38, 39, 40, 41, 42, 43, 44, 45, 46, 47, 48, 49, 50, 51, 52] [0, 1, 2, 3, 4, 5, 6, 7, 8, 9, 10, 11, 12, 13, 14, 15, 16, 17, 18, 19, 20, 21, 22, 23, 24, 25, 26, 27, 28, 29, 30, 31, 32, 33, 34, 35, 36, 37, 38, 39, 40, 41, 42, 43, 44, 45, 46, 47, 48, 49, 50, 51, 52, 53, 54, 55, 56, 57, 58, 59, 60, 61, 62, 63, 64, 65, 66, 67, 68, 69, 70, 71, 72, 73, 74, 75, 76, 77, 78, 79, 80, 81, 82, 83, 84, 85, 86, 87, 88, 89] rfl rfl (by decide) (by decide) (fun _ => rfl) (by decide) (fun u1 H locs _ hP hD hS => ?_)
  have hP : va_P (dC, dI) vwCl ([(a1, .inr (8, [.ref (u0 0), .ref (u0 2), .ref (u0 12), .ref (u0 22), .ref (u0 29), .ref (u0 36), .ref (u0 37), .ref (u0 38), .ref (u0 42), .ref (u0 43)])), (u0 0, .inr (7, [.ref (u0 1), .int 0, .int 0, .int (-1), .int 0, .int 0, .int 0, .int 0])), (u0 1, .inl (cB, 600, .inl (fun _ => 0))), (u0 2, .inr (3, [.int 0, .int 0, .int 0, .int 0, .int 0, .int 0, .int 0, .ref (u0 3), .ref (u0 4), .ref (u0 5), .ref (u0 6), .ref (u0 7), .ref (u0 8), .ref (u0 9), .ref (u0 10), .ref (u0 11)])), (u0 3, .inl (cI, 6, .inl (fun _ => 0))), (u0 4, .inl (cI, 6, .inl (fun _ => 0))), (u0 5, .inl (cI, 8, .inl (fun _ => 0))), (u0 6, .inl (cI, 8, .inl (fun _ => 0))), (u0 7, .inl (cI, 8, .inl (fun _ => 0))), (u0 8, .inl (cI, 8, .inl (fun _ => 0))), (u0 9, .inl (cI, 13, .inl (fun _ => (-1)))), (u0 10, .inl (cI, 120, .inl (fun _ => 0))), (u0 11, .inl (cI, 120, .inl (fun _ => 0))), (u0 12, .inr (3, [.int 0, .int 0, .int 0, .int 0, .int 0, .int 0, .int 0, .ref (u0 13), .ref (u0 14), .ref (u0 15), .ref (u0 16), .ref (u0 17), .ref (u0 18), .ref (u0 19), .ref (u0 20), .ref (u0 21)])), (u0 13, .inl (cI, 6, .inl (fun _ => 0))), (u0 14, .inl (cI, 6, .inl (fun _ => 0))), (u0 15, .inl (cI, 8, .inl (fun _ => 0))), (u0 16, .inl (cI, 8, .inl (fun _ => 0))), (u0 17, .inl (cI, 8, .inl (fun _ => 0))), (u0 18, .inl (cI, 8, .inl (fun _ => 0))), (u0 19, .inl (cI, 13, .inl (fun _ => (-1)))), (u0 20, .inl (cI, 120, .inl (fun _ => 0))), (u0 21, .inl (cI, 120, .inl (fun _ => 0))), (u0 22, .inr (5, [.int 0, .ref (u0 23), .ref (u0 24), .ref (u0 25), .ref (u0 26), .ref (u0 27), .ref (u0 28)])), (u0 23, .inl (cI, 200, .inl (fun _ => 0))), (u0 24, .inl (cI, 200, .inl (fun _ => 0))), (u0 25, .inl (cI, 200, .inl (fun _ => 0))), (u0 26, .inl (cI, 200, .inl (fun _ => 0))), (u0 27, .inl (cI, 200, .inl (fun _ => 0))), (u0 28, .inl (cI, 200, .inl (fun _ => 0))), (u0 29, .inr (5, [.int 0, .ref (u0 30), .ref (u0 31), .ref (u0 32), .ref (u0 33), .ref (u0 34), .ref (u0 35)])), (u0 30, .inl (cI, 200, .inl (fun _ => 0))), (u0 31, .inl (cI, 200, .inl (fun _ => 0))), (u0 32, .inl (cI, 200, .inl (fun _ => 0))), (u0 33, .inl (cI, 200, .inl (fun _ => 0))), (u0 34, .inl (cI, 200, .inl (fun _ => 0))), (u0 35, .inl (cI, 200, .inl (fun _ => 0))), (u0 36, .inr (0, [.long 0])), (u0 37, .inr (6, [.long 0, .long 0, .long 0, .long 0, .long 0, .long 0, .long 0, .long 0, .long 0, .long 0, .long 0])), (u0 38, .inr (1, [.ref (u0 39), .ref (u0 40), .ref (u0 41)])), (u0 39, .inl (cJ, 72, .inr (.inl (fun _ => 0)))), (u0 40, .inl (cJ, 72, .inr (.inl (fun _ => 0)))), (u0 41, .inl (cJ, 72, .inr (.inl (fun _ => 0)))), (u0 42, .inl (cP, 3, .inr (.inr (.inr (.inr (fun _ => none)))))), (u0 43, .inl (cQ, 4, .inr (.inr (.inr (.inr (zQ4 (u0 44) (u0 46) (u0 48) (u0 50))))))), (u0 44, .inr (4, [.int (-1), .int 0, .ref (u0 45)])), (u0 45, .inl (cJ, 60, .inr (.inl (fun _ => 0)))), (u0 46, .inr (4, [.int (-1), .int 0, .ref (u0 47)])), (u0 47, .inl (cJ, 60, .inr (.inl (fun _ => 0)))), (u0 48, .inr (4, [.int (-1), .int 0, .ref (u0 49)])), (u0 49, .inl (cJ, 60, .inr (.inl (fun _ => 0)))), (u0 50, .inr (4, [.int (-1), .int 0, .ref (u0 51)])), (u0 51, .inl (cJ, 60, .inr (.inl (fun _ => 0))))] ++ [(a2, .inr (9, [.int 0, .ref (u1 0), .ref (u1 1), .ref (u1 2), .ref (u1 3), .ref (u1 4), .int 0, .int 0, .int 0, .int 0, .int 0, .long 0, .int 0, .int 0, .int 0, .int (-1), .ref (u1 5), .ref (u1 6), .ref (u1 7), .ref (u1 8), .ref (u1 9), .ref (u1 10), .ref (u1 11), .ref (u1 12), .ref (u1 13), .ref (u1 14), .ref (u1 15), .ref (u1 16), .ref (u1 17), .ref (u1 18), .ref (u1 19), .ref (u1 20), .ref (u1 21), .ref (u1 22), .ref (u1 23), .ref (u1 24), .ref (u1 25), .ref (u1 26), .ref (u1 27), .ref (u1 28), .ref (u1 29), .ref (u1 30), .long 0, .int 0, .long 0, .long 0, .long 0, .long 0, .long 0, .long 0, .long 0, .long 0, .ref (u1 31), .int 0, .ref (u1 32), .ref (u1 33), .ref (u1 34), .long 0, .long 0, .ref (u1 35)])), (u1 0, .inl (cI, 4, .inl (fun _ => (-1)))), (u1 1, .inl (cI, 4, .inl (fun _ => 0))), (u1 2, .inl (cJ, 240, .inr (.inl (fun _ => 0)))), (u1 3, .inl (cJ, 60, .inr (.inl (fun _ => 0)))), (u1 4, .inl (cB, 600, .inl (fun _ => 0))), (u1 5, .inl (cI, 5, .inl (fun _ => 0))), (u1 6, .inl (cI, 5, .inl (fun _ => 0))), (u1 7, .inl (cI, 30, .inl (fun _ => 0))), (u1 8, .inl (cI, 30, .inl (fun _ => 0))), (u1 9, .inl (cI, 5, .inl (fun _ => 0))), (u1 10, .inl (cI, 40, .inl (fun _ => 0))), (u1 11, .inl (cI, 40, .inl (fun _ => 0))), (u1 12, .inl (cI, 40, .inl (fun _ => 0))), (u1 13, .inl (cI, 40, .inl (fun _ => 0))), (u1 14, .inl (cZ, 60, .inl (fun _ => 0))), (u1 15, .inl (cI, 60, .inl (fun _ => 0))), (u1 16, .inl (cZ, 5, .inl (fun _ => 0))), (u1 17, .inl (cZ, 5, .inl (fun _ => 0))), (u1 18, .inl (cI, 5, .inl (fun _ => 0))), (u1 19, .inl (cI, 5, .inl (fun _ => 0))), (u1 20, .inl (cI, 5, .inl (fun _ => 0))), (u1 21, .inl (cI, 1600, .inl (fun _ => 0))), (u1 22, .inl (cZ, 3, .inl (fun _ => 0))), (u1 23, .inl (cJ, 320, .inr (.inl (fun _ => 0)))), (u1 24, .inl (cI, 5, .inl (fun _ => 0))), (u1 25, .inl (cI, 1000, .inl (fun _ => 0))), (u1 26, .inl (cI, 1000, .inl (fun _ => 0))), (u1 27, .inl (cI, 1000, .inl (fun _ => 0))), (u1 28, .inl (cI, 1000, .inl (fun _ => 0))), (u1 29, .inl (cI, 1000, .inl (fun _ => 0))), (u1 30, .inl (cI, 1000, .inl (fun _ => 0))), (u1 31, .inl (cZ, 200, .inl (fun _ => 0))), (u1 32, .inl (cJ, 72, .inr (.inl (fun _ => 0)))), (u1 33, .inl (cJ, 72, .inr (.inl (fun _ => 0)))), (u1 34, .inl (cJ, 72, .inr (.inl (fun _ => 0)))), (u1 35, .inl (cZ, 199, .inl (fun _ => 0)))]) H := hP
  have hD : va_D (fun q : Nat => s.heap.size ≤ q) ([(a1, .inr (8, [.ref (u0 0), .ref (u0 2), .ref (u0 12), .ref (u0 22), .ref (u0 29), .ref (u0 36), .ref (u0 37), .ref (u0 38), .ref (u0 42), .ref (u0 43)])), (u0 0, .inr (7, [.ref (u0 1), .int 0, .int 0, .int (-1), .int 0, .int 0, .int 0, .int 0])), (u0 1, .inl (cB, 600, .inl (fun _ => 0))), (u0 2, .inr (3, [.int 0, .int 0, .int 0, .int 0, .int 0, .int 0, .int 0, .ref (u0 3), .ref (u0 4), .ref (u0 5), .ref (u0 6), .ref (u0 7), .ref (u0 8), .ref (u0 9), .ref (u0 10), .ref (u0 11)])), (u0 3, .inl (cI, 6, .inl (fun _ => 0))), (u0 4, .inl (cI, 6, .inl (fun _ => 0))), (u0 5, .inl (cI, 8, .inl (fun _ => 0))), (u0 6, .inl (cI, 8, .inl (fun _ => 0))), (u0 7, .inl (cI, 8, .inl (fun _ => 0))), (u0 8, .inl (cI, 8, .inl (fun _ => 0))), (u0 9, .inl (cI, 13, .inl (fun _ => (-1)))), (u0 10, .inl (cI, 120, .inl (fun _ => 0))), (u0 11, .inl (cI, 120, .inl (fun _ => 0))), (u0 12, .inr (3, [.int 0, .int 0, .int 0, .int 0, .int 0, .int 0, .int 0, .ref (u0 13), .ref (u0 14), .ref (u0 15), .ref (u0 16), .ref (u0 17), .ref (u0 18), .ref (u0 19), .ref (u0 20), .ref (u0 21)])), (u0 13, .inl (cI, 6, .inl (fun _ => 0))), (u0 14, .inl (cI, 6, .inl (fun _ => 0))), (u0 15, .inl (cI, 8, .inl (fun _ => 0))), (u0 16, .inl (cI, 8, .inl (fun _ => 0))), (u0 17, .inl (cI, 8, .inl (fun _ => 0))), (u0 18, .inl (cI, 8, .inl (fun _ => 0))), (u0 19, .inl (cI, 13, .inl (fun _ => (-1)))), (u0 20, .inl (cI, 120, .inl (fun _ => 0))), (u0 21, .inl (cI, 120, .inl (fun _ => 0))), (u0 22, .inr (5, [.int 0, .ref (u0 23), .ref (u0 24), .ref (u0 25), .ref (u0 26), .ref (u0 27), .ref (u0 28)])), (u0 23, .inl (cI, 200, .inl (fun _ => 0))), (u0 24, .inl (cI, 200, .inl (fun _ => 0))), (u0 25, .inl (cI, 200, .inl (fun _ => 0))), (u0 26, .inl (cI, 200, .inl (fun _ => 0))), (u0 27, .inl (cI, 200, .inl (fun _ => 0))), (u0 28, .inl (cI, 200, .inl (fun _ => 0))), (u0 29, .inr (5, [.int 0, .ref (u0 30), .ref (u0 31), .ref (u0 32), .ref (u0 33), .ref (u0 34), .ref (u0 35)])), (u0 30, .inl (cI, 200, .inl (fun _ => 0))), (u0 31, .inl (cI, 200, .inl (fun _ => 0))), (u0 32, .inl (cI, 200, .inl (fun _ => 0))), (u0 33, .inl (cI, 200, .inl (fun _ => 0))), (u0 34, .inl (cI, 200, .inl (fun _ => 0))), (u0 35, .inl (cI, 200, .inl (fun _ => 0))), (u0 36, .inr (0, [.long 0])), (u0 37, .inr (6, [.long 0, .long 0, .long 0, .long 0, .long 0, .long 0, .long 0, .long 0, .long 0, .long 0, .long 0])), (u0 38, .inr (1, [.ref (u0 39), .ref (u0 40), .ref (u0 41)])), (u0 39, .inl (cJ, 72, .inr (.inl (fun _ => 0)))), (u0 40, .inl (cJ, 72, .inr (.inl (fun _ => 0)))), (u0 41, .inl (cJ, 72, .inr (.inl (fun _ => 0)))), (u0 42, .inl (cP, 3, .inr (.inr (.inr (.inr (fun _ => none)))))), (u0 43, .inl (cQ, 4, .inr (.inr (.inr (.inr (zQ4 (u0 44) (u0 46) (u0 48) (u0 50))))))), (u0 44, .inr (4, [.int (-1), .int 0, .ref (u0 45)])), (u0 45, .inl (cJ, 60, .inr (.inl (fun _ => 0)))), (u0 46, .inr (4, [.int (-1), .int 0, .ref (u0 47)])), (u0 47, .inl (cJ, 60, .inr (.inl (fun _ => 0)))), (u0 48, .inr (4, [.int (-1), .int 0, .ref (u0 49)])), (u0 49, .inl (cJ, 60, .inr (.inl (fun _ => 0)))), (u0 50, .inr (4, [.int (-1), .int 0, .ref (u0 51)])), (u0 51, .inl (cJ, 60, .inr (.inl (fun _ => 0))))] ++ [(a2, .inr (9, [.int 0, .ref (u1 0), .ref (u1 1), .ref (u1 2), .ref (u1 3), .ref (u1 4), .int 0, .int 0, .int 0, .int 0, .int 0, .long 0, .int 0, .int 0, .int 0, .int (-1), .ref (u1 5), .ref (u1 6), .ref (u1 7), .ref (u1 8), .ref (u1 9), .ref (u1 10), .ref (u1 11), .ref (u1 12), .ref (u1 13), .ref (u1 14), .ref (u1 15), .ref (u1 16), .ref (u1 17), .ref (u1 18), .ref (u1 19), .ref (u1 20), .ref (u1 21), .ref (u1 22), .ref (u1 23), .ref (u1 24), .ref (u1 25), .ref (u1 26), .ref (u1 27), .ref (u1 28), .ref (u1 29), .ref (u1 30), .long 0, .int 0, .long 0, .long 0, .long 0, .long 0, .long 0, .long 0, .long 0, .long 0, .ref (u1 31), .int 0, .ref (u1 32), .ref (u1 33), .ref (u1 34), .long 0, .long 0, .ref (u1 35)])), (u1 0, .inl (cI, 4, .inl (fun _ => (-1)))), (u1 1, .inl (cI, 4, .inl (fun _ => 0))), (u1 2, .inl (cJ, 240, .inr (.inl (fun _ => 0)))), (u1 3, .inl (cJ, 60, .inr (.inl (fun _ => 0)))), (u1 4, .inl (cB, 600, .inl (fun _ => 0))), (u1 5, .inl (cI, 5, .inl (fun _ => 0))), (u1 6, .inl (cI, 5, .inl (fun _ => 0))), (u1 7, .inl (cI, 30, .inl (fun _ => 0))), (u1 8, .inl (cI, 30, .inl (fun _ => 0))), (u1 9, .inl (cI, 5, .inl (fun _ => 0))), (u1 10, .inl (cI, 40, .inl (fun _ => 0))), (u1 11, .inl (cI, 40, .inl (fun _ => 0))), (u1 12, .inl (cI, 40, .inl (fun _ => 0))), (u1 13, .inl (cI, 40, .inl (fun _ => 0))), (u1 14, .inl (cZ, 60, .inl (fun _ => 0))), (u1 15, .inl (cI, 60, .inl (fun _ => 0))), (u1 16, .inl (cZ, 5, .inl (fun _ => 0))), (u1 17, .inl (cZ, 5, .inl (fun _ => 0))), (u1 18, .inl (cI, 5, .inl (fun _ => 0))), (u1 19, .inl (cI, 5, .inl (fun _ => 0))), (u1 20, .inl (cI, 5, .inl (fun _ => 0))), (u1 21, .inl (cI, 1600, .inl (fun _ => 0))), (u1 22, .inl (cZ, 3, .inl (fun _ => 0))), (u1 23, .inl (cJ, 320, .inr (.inl (fun _ => 0)))), (u1 24, .inl (cI, 5, .inl (fun _ => 0))), (u1 25, .inl (cI, 1000, .inl (fun _ => 0))), (u1 26, .inl (cI, 1000, .inl (fun _ => 0))), (u1 27, .inl (cI, 1000, .inl (fun _ => 0))), (u1 28, .inl (cI, 1000, .inl (fun _ => 0))), (u1 29, .inl (cI, 1000, .inl (fun _ => 0))), (u1 30, .inl (cI, 1000, .inl (fun _ => 0))), (u1 31, .inl (cZ, 200, .inl (fun _ => 0))), (u1 32, .inl (cJ, 72, .inr (.inl (fun _ => 0)))), (u1 33, .inl (cJ, 72, .inr (.inl (fun _ => 0)))), (u1 34, .inl (cJ, 72, .inr (.inl (fun _ => 0)))), (u1 35, .inl (cZ, 199, .inl (fun _ => 0)))]) := hD
  refine W.widen (k := 90) (n := 14039) (by decide) (by decide) ?_
  refine lv_astore_n (lv' := [(2, .ref a2), (1, .ref a1), (0, .ref b)]) hx hb dL_law_15 rfl hl (by decide) rfl (fun ls hl => ?_)
  refine lv_iconst (v := 0) hx hb dL_law_16 (by decide) ?_
  refine lv_istore_n (lv' := [(3, .int 0), (2, .ref a2), (1, .ref a1), (0, .ref b)]) hx hb dL_law_17 rfl hl (by decide) rfl (fun ls hl => ?_)
  exact law_loop l dC dI cB cI cJ cZ cP cQ adK adV q0 a1 a2 C0 hL hK hX hE (L + 1) 0 0 90 14039 (by omega) (by decide) (by omega) (by omega) (by omega) _ _ (IX_new cB cI cJ cZ cP cQ u0 a1) (IM_new cB cI cJ cZ cP cQ u1 a2) H locs hP hD hS ls hl
-- ===== YOUR PART ENDS =====
set_option maxHeartbeats 4000000 in
theorem lw_walk (l : Launch) (b : Addr) (xs : List Int32) : MetFree l x (headSpec (Jvm.Cond.code x code maxLocals ret :: tables_1) room_1) (lw_P b xs) (fun _ _ _ _ _ => True) lw_Q := by
  refine MetFree.of_bodyS (code := code) (maxLocals := maxLocals) (ret := ret) (by decide) ?_ ?_
  · intro args s m h hn
    obtain ⟨meth, c, h1, h2, h3, h4, h5, h6, -, -⟩ := Cond.code_spec hn (atoms_spec (ws := Jvm.Cond.code x code maxLocals ret :: tables_1) h _ List.mem_cons_self)
    exact ⟨meth, c, h1, h2, h3, h4, h5, h6⟩
  · intro p e s m args below meth c s₁ B hml0 hP _
    obtain ⟨rfl, hx, hbd, hgv⟩ := hP
    obtain ⟨scr, harrAt, hlist, hof, hsmall⟩ := hx
    obtain ⟨hcb, hkn, -, -⟩ := State.arrayAt?_spec harrAt
    have hown : s.vm.findClass R_law = some m.cls := findClass_of_methodNamed B.named
    have hts0 : ∀ c ∈ (Jvm.Cond.code x code maxLocals ret :: tables_1), c.before #[Value.ref b] s = true := atoms_spec (ws := Jvm.Cond.code x code maxLocals ret :: tables_1) B.pre
    have hts : ∀ w ∈ lw_tbl, w.before #[Value.ref b] s = true := k2_hts_sels lw_privs (fun w hw => hts0 w (List.mem_cons_of_mem _ hw)) lw_privs_ok
    have hml : c.maxLocals = 4 := B.maxLocals_eq (hts0 _ List.mem_cons_self)
    have X₀ : Stand p l e room_1 s m #[Value.ref b] below meth c s₁ [] 0 0 := Stand.of_body B
    have hh0 : s₁.heap = s.heap := by rw [B.state]; rfl
    have hsz : scr.slots.size = xs.length := by rw [← Array.length_toList, hlist, List.length_map]
    have hval : ∀ j : Nat, j < xs.length → scr.slots[j]? = some (.int (xs.getD j 0)) := fun j hj => by
      rw [← Array.getElem?_toList, hlist]
      simp [hj]
    have hbl : b < s.heap.size := (Array.getElem?_eq_some_iff.mp hcb).1
    have hX : va_X b xs.length (fun j => xs.getD j 0) s s.heap := ⟨scr, hcb, hof, hkn, hsz, hval⟩
    have K : W p l e room_1 s m #[Value.ref b] below meth c s₁.heap [] 0 0 (lw_Z below #[Value.ref b] s) (entryFrame m ([Value.ref b] : List Value).toArray 4) := by
      rw [hh0]
      exact whole_start l hbd ⟨B.exec, B.bytes, B.returns, hml, hown, hts, hX, hbl, B.notSynchronized, hgv⟩
    obtain ⟨t, a1, o, b1, b2, b3⟩ := K s₁ rfl X₀
    exact ⟨t, o, a1, b1, b2, b3⟩
theorem lw_pre_spec {args : Array Value} {s : State} (h : (Jvm.Cond.and given_1 narrow_1).before args s = true) (hr : rest_1_c.before args s = true) : ∃ (b : Addr) (xs : List Int32), lw_P b xs args s := by
  have hs := flat_of_before _ h
  have hq := flat_of_before _ hr
  have hc : (Cond.count 1).before args s = true := hs _ (by decide +kernel)
  have harr : (Cond.arrayOf (.arg 0) .int).before args s = true := hs _ (by decide +kernel)
  have hle : (Cond.le (.length (.arg 0)) (.int 3072)).before args s = true := hs _ (by decide +kernel)
  have hlen : (Cond.isInt (.length (.arg 0))).before args s = true := hq _ (by decide +kernel)
  have hall : (Cond.all (.arg 0) (.isInt (.elem (.arg 0) (.index 0)))).before args s = true := hq _ (by decide +kernel)
  obtain ⟨b, xs, hb, hx⟩ := State.ints_of_pre rfl harr hlen hall
  have hsm : xs.length < 2 ^ 31 := hx.choose_spec.2.2.2
  have hev : (Term.length (.arg 0)).eval args s none [] s = some (.int xs.length.toInt32) := hx.length_eval hb
  have hv := Cond.le_ints hev (show (Term.int 3072).eval args s none [] s = some (.int 3072) from rfl)
  have hd : xs.length.toInt32 ≤ 3072 := by
    simpa [Cond.before, Cond.holds, hv] using hle
  have hN : xs.length ≤ 3072 := (Int32.ofNat_le_ofNat hsm (by decide)).mp (show Int32.ofNat xs.length ≤ Int32.ofNat 3072 from hd)
  exact ⟨b, xs, Cond.one_arg hc (show args[0]? = some (.ref b) from hb), hx, hN, h⟩
theorem lw_comes (l : Launch) : Comes l x (Jvm.Cond.code x code maxLocals ret :: tables_1) room_1 (fun tb e args s => Calls_1 tb e args s ∧ rest_1 tb e args s ∧ Pre_1 tb e args s)
    (fun _ _ args s o t => lw_Q args s o t) := by
  intro p e ha hc hk s m args below hf hfit hheap happ hpre
  obtain ⟨b, xs, hP⟩ := lw_pre_spec hpre.2.2 hpre.2.1
  obtain ⟨k, o, h1, h2, h3, hQ⟩ := lw_walk l b xs p e ha hc hk s m args below hf ((Spec.applies_iff_loose hf).mp happ).1 hP trivial
  exact ⟨k, o, h1, h2, h3, hQ⟩
theorem lw_frame {s t : State} {o : Outcome} {args : Array Value} (h : Framed s o t [] 600000 7302250) :
    Framed s o t (fieldLocs frame_1_writes args s ++ arrayLocs frame_1_arrays args s ++ staticLocs frame_1_statics s) 600000 7302250 := h
theorem lw_limb (L : Cond) (hL : ∀ (args : Array Value) (s t : State), L.after args s (.returned (some (.int 1))) t = true) :
    ArmFor flags0 classFile x code maxLocals ret World_1 tables_1 room_1 Calls_1 rest_1 Pre_1
      (fun tb e a s o t => postC L tb e a s o t ∧ Framed s o t (fieldLocs frame_1_writes a s ++ arrayLocs frame_1_arrays a s ++ staticLocs frame_1_statics s) 600000 7302250) := by
  intro l _ _ _ p e ha hc hk s m args below hf hfit hheap happ hpre
  obtain ⟨k, o, h1, h2, h3, rfl, hF⟩ := lw_comes l p e ha hc hk s m args below hf hfit hheap happ hpre
  exact ⟨k, _, h1, h2, h3, hL args s _, lw_frame hF⟩
theorem i_vc : Claimed_1_1 ∧ Claimed_1_2 := ⟨lw_limb limb_1_1 (fun args s t => by simp [limb_1_1, Cond.after, Cond.holds, Cond.value]), lw_limb limb_1_2 (fun args s t => Cond.after_iff.mpr (by
  first | (rw [show limb_1_2 = Cond.eq .result (.int 1) from rfl, Cond.eq_ints (x := 1) (y := 1) rfl rfl]; simp; done) | (simp [limb_1_2, Cond.value, Term.eval]; done)))⟩
