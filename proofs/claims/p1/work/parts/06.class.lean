theorem dX8_needPerson_0 : decode cX8_needPerson 0 = .ok (.iload_n 1, 1) := by decide +kernel
theorem dX8_needPerson_1 : decode cX8_needPerson 1 = .ok (.ifCond .lt 14, 3) := by decide +kernel
theorem dX8_needPerson_15 : decode cX8_needPerson 15 = .ok (.new 408, 3) := by decide +kernel
theorem dX8_needPerson_18 : decode cX8_needPerson 18 = .ok (.dup, 1) := by decide +kernel
theorem dX8_needPerson_19 : decode cX8_needPerson 19 = .ok (.invokespecial 410, 3) := by decide +kernel
theorem dX8_needPerson_22 : decode cX8_needPerson 22 = .ok (.athrow, 1) := by decide +kernel
theorem dX8_needPerson_4 : decode cX8_needPerson 4 = .ok (.iload_n 1, 1) := by decide +kernel
theorem dX8_needPerson_5 : decode cX8_needPerson 5 = .ok (.aload_n 0, 1) := by decide +kernel
theorem dX8_needPerson_6 : decode cX8_needPerson 6 = .ok (.getfield 10, 3) := by decide +kernel
theorem dX8_needPerson_9 : decode cX8_needPerson 9 = .ok (.getfield 46, 3) := by decide +kernel
theorem dX8_needPerson_12 : decode cX8_needPerson 12 = .ok (.if_icmp .lt 11, 3) := by decide +kernel
theorem dX8_needPaper_0 : decode cX8_needPaper 0 = .ok (.iload_n 1, 1) := by decide +kernel
theorem dX8_needPaper_1 : decode cX8_needPaper 1 = .ok (.ifCond .lt 14, 3) := by decide +kernel
theorem dX8_needPaper_15 : decode cX8_needPaper 15 = .ok (.new 408, 3) := by decide +kernel
theorem dX8_needPaper_18 : decode cX8_needPaper 18 = .ok (.dup, 1) := by decide +kernel
theorem dX8_needPaper_19 : decode cX8_needPaper 19 = .ok (.invokespecial 410, 3) := by decide +kernel
theorem dX8_needPaper_22 : decode cX8_needPaper 22 = .ok (.athrow, 1) := by decide +kernel
theorem dX8_needPaper_4 : decode cX8_needPaper 4 = .ok (.iload_n 1, 1) := by decide +kernel
theorem dX8_needPaper_5 : decode cX8_needPaper 5 = .ok (.aload_n 0, 1) := by decide +kernel
theorem dX8_needPaper_6 : decode cX8_needPaper 6 = .ok (.getfield 26, 3) := by decide +kernel
theorem dX8_needPaper_9 : decode cX8_needPaper 9 = .ok (.invokevirtual 91, 3) := by decide +kernel
theorem dX8_needPaper_12 : decode cX8_needPaper 12 = .ok (.if_icmp .lt 11, 3) := by decide +kernel
theorem dX8_paperAt_0 : decode cX8_paperAt 0 = .ok (.aload_n 0, 1) := by decide +kernel
theorem dX8_paperAt_1 : decode cX8_paperAt 1 = .ok (.iload_n 1, 1) := by decide +kernel
theorem dX8_paperAt_2 : decode cX8_paperAt 2 = .ok (.invokevirtual 292, 3) := by decide +kernel
theorem dX8_tellConflict_0 : decode cX8_tellConflict 0 = .ok (.aload_n 0, 1) := by decide +kernel
theorem dX8_tellConflict_1 : decode cX8_tellConflict 1 = .ok (.iload_n 1, 1) := by decide +kernel
theorem dX8_tellConflict_2 : decode cX8_tellConflict 2 = .ok (.invokevirtual 56, 3) := by decide +kernel
theorem dX8_haveConflict_0 : decode cX8_haveConflict 0 = .ok (.aload_n 0, 1) := by decide +kernel
theorem dX8_haveConflict_1 : decode cX8_haveConflict 1 = .ok (.iload_n 1, 1) := by decide +kernel
theorem dX8_haveConflict_2 : decode cX8_haveConflict 2 = .ok (.invokevirtual 56, 3) := by decide +kernel
theorem dX8_sendAway_0 : decode cX8_sendAway 0 = .ok (.aload_n 0, 1) := by decide +kernel
theorem dX8_sendAway_1 : decode cX8_sendAway 1 = .ok (.iload_n 1, 1) := by decide +kernel
theorem dX8_sendAway_2 : decode cX8_sendAway 2 = .ok (.invokevirtual 56, 3) := by decide +kernel
theorem dX8_addEditor_0 : decode cX8_addEditor 0 = .ok (.aload_n 0, 1) := by decide +kernel
theorem dX8_addEditor_1 : decode cX8_addEditor 1 = .ok (.iload_n 1, 1) := by decide +kernel
theorem dX8_addEditor_2 : decode cX8_addEditor 2 = .ok (.invokevirtual 56, 3) := by decide +kernel
theorem dX8_begin_0 : decode cX8_begin 0 = .ok (.aload_n 0, 1) := by decide +kernel
theorem dX8_begin_1 : decode cX8_begin 1 = .ok (.iload_n 1, 1) := by decide +kernel
theorem dX8_begin_2 : decode cX8_begin 2 = .ok (.invokevirtual 56, 3) := by decide +kernel
theorem dX8_addAuthor_0 : decode cX8_addAuthor 0 = .ok (.aload_n 0, 1) := by decide +kernel
theorem dX8_addAuthor_1 : decode cX8_addAuthor 1 = .ok (.iload_n 1, 1) := by decide +kernel
theorem dX8_addAuthor_2 : decode cX8_addAuthor 2 = .ok (.invokevirtual 123, 3) := by decide +kernel
theorem dX8_dropAuthor_0 : decode cX8_dropAuthor 0 = .ok (.aload_n 0, 1) := by decide +kernel
theorem dX8_dropAuthor_1 : decode cX8_dropAuthor 1 = .ok (.iload_n 1, 1) := by decide +kernel
theorem dX8_dropAuthor_2 : decode cX8_dropAuthor 2 = .ok (.invokevirtual 123, 3) := by decide +kernel
theorem dX8_sign_0 : decode cX8_sign 0 = .ok (.aload_n 0, 1) := by decide +kernel
theorem dX8_sign_1 : decode cX8_sign 1 = .ok (.iload_n 1, 1) := by decide +kernel
theorem dX8_sign_2 : decode cX8_sign 2 = .ok (.invokevirtual 123, 3) := by decide +kernel
theorem dX8_revise_0 : decode cX8_revise 0 = .ok (.aload_n 0, 1) := by decide +kernel
theorem dX8_revise_1 : decode cX8_revise 1 = .ok (.iload_n 1, 1) := by decide +kernel
theorem dX8_revise_2 : decode cX8_revise 2 = .ok (.invokevirtual 123, 3) := by decide +kernel
theorem dX8_withdraw_0 : decode cX8_withdraw 0 = .ok (.aload_n 0, 1) := by decide +kernel
theorem dX8_withdraw_1 : decode cX8_withdraw 1 = .ok (.iload_n 1, 1) := by decide +kernel
theorem dX8_withdraw_2 : decode cX8_withdraw 2 = .ok (.invokevirtual 123, 3) := by decide +kernel
theorem dX8_assign_0 : decode cX8_assign 0 = .ok (.aload_n 0, 1) := by decide +kernel
theorem dX8_assign_1 : decode cX8_assign 1 = .ok (.iload_n 1, 1) := by decide +kernel
theorem dX8_assign_2 : decode cX8_assign 2 = .ok (.invokevirtual 123, 3) := by decide +kernel
theorem dX8_editorOf_0 : decode cX8_editorOf 0 = .ok (.aload_n 0, 1) := by decide +kernel
theorem dX8_editorOf_1 : decode cX8_editorOf 1 = .ok (.iload_n 1, 1) := by decide +kernel
theorem dX8_editorOf_2 : decode cX8_editorOf 2 = .ok (.invokevirtual 123, 3) := by decide +kernel
theorem dX8_invite_0 : decode cX8_invite 0 = .ok (.aload_n 0, 1) := by decide +kernel
theorem dX8_invite_1 : decode cX8_invite 1 = .ok (.iload_n 1, 1) := by decide +kernel
theorem dX8_invite_2 : decode cX8_invite 2 = .ok (.invokevirtual 123, 3) := by decide +kernel
theorem dX8_invitation_0 : decode cX8_invitation 0 = .ok (.aload_n 0, 1) := by decide +kernel
theorem dX8_invitation_1 : decode cX8_invitation 1 = .ok (.iload_n 1, 1) := by decide +kernel
theorem dX8_invitation_2 : decode cX8_invitation 2 = .ok (.invokevirtual 123, 3) := by decide +kernel
theorem dX8_answer_0 : decode cX8_answer 0 = .ok (.aload_n 0, 1) := by decide +kernel
theorem dX8_answer_1 : decode cX8_answer 1 = .ok (.iload_n 1, 1) := by decide +kernel
theorem dX8_answer_2 : decode cX8_answer 2 = .ok (.invokevirtual 123, 3) := by decide +kernel
theorem dX8_report_0 : decode cX8_report 0 = .ok (.aload_n 0, 1) := by decide +kernel
theorem dX8_report_1 : decode cX8_report 1 = .ok (.iload_n 1, 1) := by decide +kernel
theorem dX8_report_2 : decode cX8_report 2 = .ok (.invokevirtual 123, 3) := by decide +kernel
theorem dX8_evened_0 : decode cX8_evened 0 = .ok (.aload_n 0, 1) := by decide +kernel
theorem dX8_evened_1 : decode cX8_evened 1 = .ok (.iload_n 1, 1) := by decide +kernel
theorem dX8_evened_2 : decode cX8_evened 2 = .ok (.invokevirtual 123, 3) := by decide +kernel
theorem dX8_meet_0 : decode cX8_meet 0 = .ok (.aload_n 0, 1) := by decide +kernel
theorem dX8_meet_1 : decode cX8_meet 1 = .ok (.iload_n 1, 1) := by decide +kernel
theorem dX8_meet_2 : decode cX8_meet 2 = .ok (.invokevirtual 123, 3) := by decide +kernel
theorem dX8_openPoints_0 : decode cX8_openPoints 0 = .ok (.aload_n 0, 1) := by decide +kernel
theorem dX8_openPoints_1 : decode cX8_openPoints 1 = .ok (.iload_n 1, 1) := by decide +kernel
theorem dX8_openPoints_2 : decode cX8_openPoints 2 = .ok (.invokevirtual 123, 3) := by decide +kernel
theorem dX8_decide_0 : decode cX8_decide 0 = .ok (.aload_n 0, 1) := by decide +kernel
theorem dX8_decide_1 : decode cX8_decide 1 = .ok (.iload_n 1, 1) := by decide +kernel
theorem dX8_decide_2 : decode cX8_decide 2 = .ok (.invokevirtual 123, 3) := by decide +kernel
theorem dX8_appeal_0 : decode cX8_appeal 0 = .ok (.aload_n 0, 1) := by decide +kernel
theorem dX8_appeal_1 : decode cX8_appeal 1 = .ok (.iload_n 1, 1) := by decide +kernel
theorem dX8_appeal_2 : decode cX8_appeal 2 = .ok (.invokevirtual 123, 3) := by decide +kernel
theorem dX8_transfer_0 : decode cX8_transfer 0 = .ok (.aload_n 0, 1) := by decide +kernel
theorem dX8_transfer_1 : decode cX8_transfer 1 = .ok (.iload_n 1, 1) := by decide +kernel
theorem dX8_transfer_2 : decode cX8_transfer 2 = .ok (.invokevirtual 123, 3) := by decide +kernel
theorem dX8_showAhead_0 : decode cX8_showAhead 0 = .ok (.aload_n 0, 1) := by decide +kernel
theorem dX8_showAhead_1 : decode cX8_showAhead 1 = .ok (.iload_n 1, 1) := by decide +kernel
theorem dX8_showAhead_2 : decode cX8_showAhead 2 = .ok (.invokevirtual 123, 3) := by decide +kernel
theorem dX8_priority_0 : decode cX8_priority 0 = .ok (.aload_n 0, 1) := by decide +kernel
theorem dX8_priority_1 : decode cX8_priority 1 = .ok (.iload_n 1, 1) := by decide +kernel
theorem dX8_priority_2 : decode cX8_priority 2 = .ok (.invokevirtual 123, 3) := by decide +kernel
theorem dX8_embargo_0 : decode cX8_embargo 0 = .ok (.aload_n 0, 1) := by decide +kernel
theorem dX8_embargo_1 : decode cX8_embargo 1 = .ok (.iload_n 1, 1) := by decide +kernel
theorem dX8_embargo_2 : decode cX8_embargo 2 = .ok (.invokevirtual 123, 3) := by decide +kernel
theorem dX8_publish_0 : decode cX8_publish 0 = .ok (.aload_n 0, 1) := by decide +kernel
theorem dX8_publish_1 : decode cX8_publish 1 = .ok (.iload_n 1, 1) := by decide +kernel
theorem dX8_publish_2 : decode cX8_publish 2 = .ok (.invokevirtual 123, 3) := by decide +kernel
theorem dX8_cite_0 : decode cX8_cite 0 = .ok (.aload_n 0, 1) := by decide +kernel
theorem dX8_cite_1 : decode cX8_cite 1 = .ok (.iload_n 1, 1) := by decide +kernel
theorem dX8_cite_2 : decode cX8_cite 2 = .ok (.invokevirtual 123, 3) := by decide +kernel
theorem dX8_retract_0 : decode cX8_retract 0 = .ok (.aload_n 0, 1) := by decide +kernel
theorem dX8_retract_1 : decode cX8_retract 1 = .ok (.iload_n 1, 1) := by decide +kernel
theorem dX8_retract_2 : decode cX8_retract 2 = .ok (.invokevirtual 123, 3) := by decide +kernel
theorem dX8_hasConcern_0 : decode cX8_hasConcern 0 = .ok (.aload_n 0, 1) := by decide +kernel
theorem dX8_hasConcern_1 : decode cX8_hasConcern 1 = .ok (.iload_n 1, 1) := by decide +kernel
theorem dX8_hasConcern_2 : decode cX8_hasConcern 2 = .ok (.invokevirtual 123, 3) := by decide +kernel
theorem dX8_step_0 : decode cX8_step 0 = .ok (.aload_n 0, 1) := by decide +kernel
theorem dX8_step_1 : decode cX8_step 1 = .ok (.iload_n 1, 1) := by decide +kernel
theorem dX8_step_2 : decode cX8_step 2 = .ok (.invokevirtual 123, 3) := by decide +kernel
theorem dX8_claim_0 : decode cX8_claim 0 = .ok (.aload_n 0, 1) := by decide +kernel
theorem dX8_claim_1 : decode cX8_claim 1 = .ok (.iload_n 1, 1) := by decide +kernel
theorem dX8_claim_2 : decode cX8_claim 2 = .ok (.invokevirtual 123, 3) := by decide +kernel
theorem dX8_isRight_0 : decode cX8_isRight 0 = .ok (.aload_n 0, 1) := by decide +kernel
theorem dX8_isRight_1 : decode cX8_isRight 1 = .ok (.iload_n 1, 1) := by decide +kernel
theorem dX8_isRight_2 : decode cX8_isRight 2 = .ok (.invokevirtual 123, 3) := by decide +kernel
theorem dX8_likeness_0 : decode cX8_likeness 0 = .ok (.aload_n 0, 1) := by decide +kernel
theorem dX8_likeness_1 : decode cX8_likeness 1 = .ok (.iload_n 1, 1) := by decide +kernel
theorem dX8_likeness_2 : decode cX8_likeness 2 = .ok (.invokevirtual 123, 3) := by decide +kernel
theorem dX8_tellMoney_0 : decode cX8_tellMoney 0 = .ok (.aload_n 0, 1) := by decide +kernel
theorem dX8_tellMoney_1 : decode cX8_tellMoney 1 = .ok (.iload_n 1, 1) := by decide +kernel
theorem dX8_tellMoney_2 : decode cX8_tellMoney 2 = .ok (.invokevirtual 56, 3) := by decide +kernel
theorem dX8_move_0 : decode cX8_move 0 = .ok (.aload_n 0, 1) := by decide +kernel
theorem dX8_move_1 : decode cX8_move 1 = .ok (.iload_n 1, 1) := by decide +kernel
theorem dX8_move_2 : decode cX8_move 2 = .ok (.invokevirtual 56, 3) := by decide +kernel
theorem dX8_alarm_0 : decode cX8_alarm 0 = .ok (.aload_n 0, 1) := by decide +kernel
theorem dX8_alarm_1 : decode cX8_alarm 1 = .ok (.iload_n 1, 1) := by decide +kernel
theorem dX8_alarm_2 : decode cX8_alarm 2 = .ok (.invokevirtual 123, 3) := by decide +kernel
theorem dX8_equalTo_0 : decode cX8_equalTo 0 = .ok (.aload_n 0, 1) := by decide +kernel
theorem dX8_equalTo_1 : decode cX8_equalTo 1 = .ok (.iload_n 1, 1) := by decide +kernel
theorem dX8_equalTo_2 : decode cX8_equalTo 2 = .ok (.invokevirtual 123, 3) := by decide +kernel
theorem dX8_complain_0 : decode cX8_complain 0 = .ok (.aload_n 0, 1) := by decide +kernel
theorem dX8_complain_1 : decode cX8_complain 1 = .ok (.iload_n 1, 1) := by decide +kernel
theorem dX8_complain_2 : decode cX8_complain 2 = .ok (.invokevirtual 123, 3) := by decide +kernel
theorem dX8_seat_0 : decode cX8_seat 0 = .ok (.aload_n 0, 1) := by decide +kernel
theorem dX8_seat_1 : decode cX8_seat 1 = .ok (.iload_n 1, 1) := by decide +kernel
theorem dX8_seat_2 : decode cX8_seat 2 = .ok (.invokevirtual 123, 3) := by decide +kernel
theorem dX8_vote_0 : decode cX8_vote 0 = .ok (.aload_n 0, 1) := by decide +kernel
theorem dX8_vote_1 : decode cX8_vote 1 = .ok (.iload_n 1, 1) := by decide +kernel
theorem dX8_vote_2 : decode cX8_vote 2 = .ok (.invokevirtual 123, 3) := by decide +kernel
theorem dX8_sees_0 : decode cX8_sees 0 = .ok (.aload_n 0, 1) := by decide +kernel
theorem dX8_sees_1 : decode cX8_sees 1 = .ok (.iload_n 1, 1) := by decide +kernel
theorem dX8_sees_2 : decode cX8_sees 2 = .ok (.invokevirtual 56, 3) := by decide +kernel
theorem dX8_correct_0 : decode cX8_correct 0 = .ok (.aload_n 0, 1) := by decide +kernel
theorem dX8_correct_1 : decode cX8_correct 1 = .ok (.iload_n 1, 1) := by decide +kernel
theorem dX8_correct_2 : decode cX8_correct 2 = .ok (.invokevirtual 123, 3) := by decide +kernel
theorem dX8_dropCitation_0 : decode cX8_dropCitation 0 = .ok (.aload_n 0, 1) := by decide +kernel
theorem dX8_dropCitation_1 : decode cX8_dropCitation 1 = .ok (.iload_n 1, 1) := by decide +kernel
theorem dX8_dropCitation_2 : decode cX8_dropCitation 2 = .ok (.invokevirtual 123, 3) := by decide +kernel
theorem dX8_publicVersion_0 : decode cX8_publicVersion 0 = .ok (.aload_n 0, 1) := by decide +kernel
theorem dX8_publicVersion_1 : decode cX8_publicVersion 1 = .ok (.iload_n 1, 1) := by decide +kernel
theorem dX8_publicVersion_2 : decode cX8_publicVersion 2 = .ok (.invokevirtual 123, 3) := by decide +kernel
theorem dX8_index_0 : decode cX8_index 0 = .ok (.aload_n 0, 1) := by decide +kernel
theorem dX8_index_1 : decode cX8_index 1 = .ok (.iload_n 1, 1) := by decide +kernel
theorem dX8_index_2 : decode cX8_index 2 = .ok (.invokevirtual 56, 3) := by decide +kernel
theorem dX8_circle_0 : decode cX8_circle 0 = .ok (.aload_n 0, 1) := by decide +kernel
theorem dX8_circle_1 : decode cX8_circle 1 = .ok (.iload_n 1, 1) := by decide +kernel
theorem dX8_circle_2 : decode cX8_circle 2 = .ok (.invokevirtual 56, 3) := by decide +kernel
theorem dX8_state_0 : decode cX8_state 0 = .ok (.aload_n 0, 1) := by decide +kernel
theorem dX8_state_1 : decode cX8_state 1 = .ok (.iload_n 1, 1) := by decide +kernel
theorem dX8_state_2 : decode cX8_state 2 = .ok (.invokevirtual 123, 3) := by decide +kernel
theorem dX8_letters_0 : decode cX8_letters 0 = .ok (.aload_n 0, 1) := by decide +kernel
theorem dX8_letters_1 : decode cX8_letters 1 = .ok (.iload_n 1, 1) := by decide +kernel
theorem dX8_letters_2 : decode cX8_letters 2 = .ok (.invokevirtual 123, 3) := by decide +kernel
theorem dX8_letter_0 : decode cX8_letter 0 = .ok (.aload_n 0, 1) := by decide +kernel
theorem dX8_letter_1 : decode cX8_letter 1 = .ok (.iload_n 1, 1) := by decide +kernel
theorem dX8_letter_2 : decode cX8_letter 2 = .ok (.invokevirtual 123, 3) := by decide +kernel
theorem dX4_enter_0 : decode cX4_enter 0 = .ok (.aload_n 0, 1) := by decide +kernel
theorem dX4_enter_1 : decode cX4_enter 1 = .ok (.getfield 9, 3) := by decide +kernel
theorem dX4_enter_4 : decode cX4_enter 4 = .ok (.bipush 20, 2) := by decide +kernel
theorem dX4_enter_6 : decode cX4_enter 6 = .ok (.if_icmp .lt 8, 3) := by decide +kernel
theorem dX4_enter_14 : decode cX4_enter 14 = .ok (.aload_n 0, 1) := by decide +kernel
theorem dX4_enter_15 : decode cX4_enter 15 = .ok (.getfield 15, 3) := by decide +kernel
theorem dX4_enter_18 : decode cX4_enter 18 = .ok (.aload_n 0, 1) := by decide +kernel
theorem dX4_enter_19 : decode cX4_enter 19 = .ok (.getfield 9, 3) := by decide +kernel
theorem dX4_enter_22 : decode cX4_enter 22 = .ok (.iload_n 1, 1) := by decide +kernel
theorem dX4_enter_23 : decode cX4_enter 23 = .ok (.iastore, 1) := by decide +kernel
theorem dX4_enter_24 : decode cX4_enter 24 = .ok (.aload_n 0, 1) := by decide +kernel
theorem dX4_enter_25 : decode cX4_enter 25 = .ok (.getfield 19, 3) := by decide +kernel
theorem dX4_enter_28 : decode cX4_enter 28 = .ok (.aload_n 0, 1) := by decide +kernel
theorem dX4_enter_29 : decode cX4_enter 29 = .ok (.getfield 9, 3) := by decide +kernel
theorem dX4_enter_32 : decode cX4_enter 32 = .ok (.iload_n 2, 1) := by decide +kernel
theorem dX4_enter_33 : decode cX4_enter 33 = .ok (.iastore, 1) := by decide +kernel
theorem dX4_enter_34 : decode cX4_enter 34 = .ok (.aload_n 0, 1) := by decide +kernel
theorem dX4_enter_35 : decode cX4_enter 35 = .ok (.dup, 1) := by decide +kernel
theorem dX4_enter_36 : decode cX4_enter 36 = .ok (.getfield 9, 3) := by decide +kernel
theorem dX4_enter_39 : decode cX4_enter 39 = .ok (.iconst 1, 1) := by decide +kernel
theorem dX4_enter_40 : decode cX4_enter 40 = .ok (.iadd, 1) := by decide +kernel
theorem dX4_enter_41 : decode cX4_enter 41 = .ok (.putfield 9, 3) := by decide +kernel
theorem dX4_enter_44 : decode cX4_enter 44 = .ok (.aload_n 0, 1) := by decide +kernel
theorem dX4_enter_45 : decode cX4_enter 45 = .ok (.getfield 9, 3) := by decide +kernel
theorem dX4_enter_48 : decode cX4_enter 48 = .ok (.iconst 1, 1) := by decide +kernel
theorem dX4_enter_49 : decode cX4_enter 49 = .ok (.isub, 1) := by decide +kernel
theorem dX4_enter_50 : decode cX4_enter 50 = .ok (.ireturn, 1) := by decide +kernel
theorem dX8_addPerson_0 : decode cX8_addPerson 0 = .ok (.iload_n 1, 1) := by decide +kernel
theorem dX8_addPerson_1 : decode cX8_addPerson 1 = .ok (.iconst 0, 1) := by decide +kernel
theorem dX8_addPerson_2 : decode cX8_addPerson 2 = .ok (.bipush 9, 2) := by decide +kernel
theorem dX8_addPerson_4 : decode cX8_addPerson 4 = .ok (.invokestatic 38, 3) := by decide +kernel
theorem dX8_addPerson_7 : decode cX8_addPerson 7 = .ok (.ifCond .eq 13, 3) := by decide +kernel
theorem dX8_addPerson_20 : decode cX8_addPerson 20 = .ok (.new 43, 3) := by decide +kernel
theorem dX8_addPerson_23 : decode cX8_addPerson 23 = .ok (.dup, 1) := by decide +kernel
theorem dX8_addPerson_24 : decode cX8_addPerson 24 = .ok (.invokespecial 45, 3) := by decide +kernel
theorem dX8_addPerson_27 : decode cX8_addPerson 27 = .ok (.athrow, 1) := by decide +kernel
theorem dX8_addPerson_10 : decode cX8_addPerson 10 = .ok (.iload_n 2, 1) := by decide +kernel
theorem dX8_addPerson_11 : decode cX8_addPerson 11 = .ok (.iconst 0, 1) := by decide +kernel
theorem dX8_addPerson_12 : decode cX8_addPerson 12 = .ok (.ldc 42, 2) := by decide +kernel
theorem dX8_addPerson_14 : decode cX8_addPerson 14 = .ok (.invokestatic 38, 3) := by decide +kernel
theorem dX8_addPerson_17 : decode cX8_addPerson 17 = .ok (.ifCond .ne 11, 3) := by decide +kernel
theorem dX8_addPerson_28 : decode cX8_addPerson 28 = .ok (.aload_n 0, 1) := by decide +kernel
theorem dX8_addPerson_29 : decode cX8_addPerson 29 = .ok (.getfield 10, 3) := by decide +kernel
theorem dX8_addPerson_32 : decode cX8_addPerson 32 = .ok (.getfield 46, 3) := by decide +kernel
theorem dX8_addPerson_35 : decode cX8_addPerson 35 = .ok (.bipush 20, 2) := by decide +kernel
theorem dX8_addPerson_37 : decode cX8_addPerson 37 = .ok (.if_icmp .lt 11, 3) := by decide +kernel
theorem dX8_addPerson_48 : decode cX8_addPerson 48 = .ok (.aload_n 0, 1) := by decide +kernel
theorem dX8_addPerson_49 : decode cX8_addPerson 49 = .ok (.getfield 10, 3) := by decide +kernel
theorem dX8_addPerson_52 : decode cX8_addPerson 52 = .ok (.iload_n 1, 1) := by decide +kernel
theorem dX8_addPerson_53 : decode cX8_addPerson 53 = .ok (.iload_n 2, 1) := by decide +kernel
theorem dX8_addPerson_54 : decode cX8_addPerson 54 = .ok (.invokevirtual 52, 3) := by decide +kernel
theorem dX8_addPerson_57 : decode cX8_addPerson 57 = .ok (.ireturn, 1) := by decide +kernel
theorem dX1_join_0 : decode cX1_join 0 = .ok (.aload_n 0, 1) := by decide +kernel
theorem dX1_join_1 : decode cX1_join 1 = .ok (.getfield 9, 3) := by decide +kernel
theorem dX1_join_4 : decode cX1_join 4 = .ok (.iload_n 1, 1) := by decide +kernel
theorem dX1_join_5 : decode cX1_join 5 = .ok (.iaload, 1) := by decide +kernel
theorem dX1_join_6 : decode cX1_join 6 = .ok (.iload_n 2, 1) := by decide +kernel
theorem dX1_join_7 : decode cX1_join 7 = .ok (.invokestatic 28, 3) := by decide +kernel
theorem dX1_join_10 : decode cX1_join 10 = .ok (.ifCond .ne 7, 3) := by decide +kernel
theorem dX1_join_13 : decode cX1_join 13 = .ok (.iconst 1, 1) := by decide +kernel
theorem dX1_join_14 : decode cX1_join 14 = .ok (.goto 4, 3) := by decide +kernel
theorem dX1_join_18 : decode cX1_join 18 = .ok (.istore_n 3, 1) := by decide +kernel
theorem dX1_join_19 : decode cX1_join 19 = .ok (.aload_n 0, 1) := by decide +kernel
theorem dX1_join_20 : decode cX1_join 20 = .ok (.getfield 9, 3) := by decide +kernel
theorem dX1_join_23 : decode cX1_join 23 = .ok (.iload_n 1, 1) := by decide +kernel
theorem dX1_join_24 : decode cX1_join 24 = .ok (.dup2, 1) := by decide +kernel
theorem dX1_join_25 : decode cX1_join 25 = .ok (.iaload, 1) := by decide +kernel
theorem dX1_join_26 : decode cX1_join 26 = .ok (.iconst 1, 1) := by decide +kernel
theorem dX1_join_27 : decode cX1_join 27 = .ok (.iload_n 2, 1) := by decide +kernel
theorem dX1_join_28 : decode cX1_join 28 = .ok (.ishl, 1) := by decide +kernel
theorem dX1_join_29 : decode cX1_join 29 = .ok (.ior, 1) := by decide +kernel
theorem dX1_join_30 : decode cX1_join 30 = .ok (.iastore, 1) := by decide +kernel
theorem dX1_join_31 : decode cX1_join 31 = .ok (.aload_n 0, 1) := by decide +kernel
theorem dX1_join_32 : decode cX1_join 32 = .ok (.getfield 9, 3) := by decide +kernel
theorem dX1_join_35 : decode cX1_join 35 = .ok (.iload_n 2, 1) := by decide +kernel
theorem dX1_join_36 : decode cX1_join 36 = .ok (.dup2, 1) := by decide +kernel
theorem dX1_join_37 : decode cX1_join 37 = .ok (.iaload, 1) := by decide +kernel
theorem dX1_join_38 : decode cX1_join 38 = .ok (.iconst 1, 1) := by decide +kernel
theorem dX1_join_39 : decode cX1_join 39 = .ok (.iload_n 1, 1) := by decide +kernel
theorem dX1_join_40 : decode cX1_join 40 = .ok (.ishl, 1) := by decide +kernel
theorem dX1_join_41 : decode cX1_join 41 = .ok (.ior, 1) := by decide +kernel
theorem dX1_join_42 : decode cX1_join 42 = .ok (.iastore, 1) := by decide +kernel
theorem dX1_join_43 : decode cX1_join 43 = .ok (.iload_n 3, 1) := by decide +kernel
theorem dX1_join_44 : decode cX1_join 44 = .ok (.ireturn, 1) := by decide +kernel
theorem dX8_tie_0 : decode cX8_tie 0 = .ok (.iload_n 1, 1) := by decide +kernel
theorem dX8_tie_1 : decode cX8_tie 1 = .ok (.invokestatic 70, 3) := by decide +kernel
theorem dX8_tie_4 : decode cX8_tie 4 = .ok (.iload_n 2, 1) := by decide +kernel
theorem dX8_tie_5 : decode cX8_tie 5 = .ok (.invokestatic 70, 3) := by decide +kernel
theorem dX8_tie_8 : decode cX8_tie 8 = .ok (.iload_n 1, 1) := by decide +kernel
theorem dX8_tie_9 : decode cX8_tie 9 = .ok (.iload_n 2, 1) := by decide +kernel
theorem dX8_tie_10 : decode cX8_tie 10 = .ok (.if_icmp .ne 11, 3) := by decide +kernel
theorem dX8_tie_21 : decode cX8_tie 21 = .ok (.aload_n 0, 1) := by decide +kernel
theorem dX8_tie_22 : decode cX8_tie 22 = .ok (.getfield 19, 3) := by decide +kernel
theorem dX8_tie_25 : decode cX8_tie 25 = .ok (.iload_n 1, 1) := by decide +kernel
theorem dX8_tie_26 : decode cX8_tie 26 = .ok (.iload_n 2, 1) := by decide +kernel
theorem dX8_tie_27 : decode cX8_tie 27 = .ok (.invokevirtual 82, 3) := by decide +kernel
theorem dX8_tie_30 : decode cX8_tie 30 = .ok (.ireturn, 1) := by decide +kernel
theorem dX8_tie_13 : decode cX8_tie 13 = .ok (.new 43, 3) := by decide +kernel
theorem dX8_tie_16 : decode cX8_tie 16 = .ok (.dup, 1) := by decide +kernel
theorem dX8_tie_17 : decode cX8_tie 17 = .ok (.invokespecial 45, 3) := by decide +kernel
theorem dX8_tie_20 : decode cX8_tie 20 = .ok (.athrow, 1) := by decide +kernel
theorem dX1_tiedTo_0 : decode cX1_tiedTo 0 = .ok (.iconst 0, 1) := by decide +kernel
theorem dX1_tiedTo_1 : decode cX1_tiedTo 1 = .ok (.istore_n 2, 1) := by decide +kernel
theorem dX1_tiedTo_2 : decode cX1_tiedTo 2 = .ok (.iconst 0, 1) := by decide +kernel
theorem dX1_tiedTo_3 : decode cX1_tiedTo 3 = .ok (.istore_n 3, 1) := by decide +kernel
theorem dX1_tiedTo_4 : decode cX1_tiedTo 4 = .ok (.iload_n 3, 1) := by decide +kernel
theorem dX1_tiedTo_5 : decode cX1_tiedTo 5 = .ok (.bipush 8, 2) := by decide +kernel
theorem dX1_tiedTo_7 : decode cX1_tiedTo 7 = .ok (.if_icmp .ge 26, 3) := by decide +kernel
theorem dX1_tiedTo_10 : decode cX1_tiedTo 10 = .ok (.iload_n 1, 1) := by decide +kernel
theorem dX1_tiedTo_11 : decode cX1_tiedTo 11 = .ok (.iload_n 3, 1) := by decide +kernel
theorem dX1_tiedTo_12 : decode cX1_tiedTo 12 = .ok (.invokestatic 28, 3) := by decide +kernel
theorem dX1_tiedTo_27 : decode cX1_tiedTo 27 = .ok (.iinc 3 1, 3) := by decide +kernel
theorem dX1_tiedTo_30 : decode cX1_tiedTo 30 = .ok (.goto (-26), 3) := by decide +kernel
theorem dX1_tiedTo_33 : decode cX1_tiedTo 33 = .ok (.iload_n 2, 1) := by decide +kernel
theorem dX1_tiedTo_34 : decode cX1_tiedTo 34 = .ok (.ireturn, 1) := by decide +kernel
theorem dX1_tiedTo_15 : decode cX1_tiedTo 15 = .ok (.ifCond .eq 12, 3) := by decide +kernel
theorem dX1_tiedTo_18 : decode cX1_tiedTo 18 = .ok (.iload_n 2, 1) := by decide +kernel
theorem dX1_tiedTo_19 : decode cX1_tiedTo 19 = .ok (.aload_n 0, 1) := by decide +kernel
theorem dX1_tiedTo_20 : decode cX1_tiedTo 20 = .ok (.getfield 9, 3) := by decide +kernel
theorem dX1_tiedTo_23 : decode cX1_tiedTo 23 = .ok (.iload_n 3, 1) := by decide +kernel
theorem dX1_tiedTo_24 : decode cX1_tiedTo 24 = .ok (.iaload, 1) := by decide +kernel
theorem dX1_tiedTo_25 : decode cX1_tiedTo 25 = .ok (.ior, 1) := by decide +kernel
theorem dX1_tiedTo_26 : decode cX1_tiedTo 26 = .ok (.istore_n 2, 1) := by decide +kernel
theorem dX1_nearest_0 : decode cX1_nearest 0 = .ok (.iconst 1, 1) := by decide +kernel
theorem dX1_nearest_1 : decode cX1_nearest 1 = .ok (.iload_n 2, 1) := by decide +kernel
theorem dX1_nearest_2 : decode cX1_nearest 2 = .ok (.ishl, 1) := by decide +kernel
theorem dX1_nearest_3 : decode cX1_nearest 3 = .ok (.istore_n 3, 1) := by decide +kernel
theorem dX1_nearest_4 : decode cX1_nearest 4 = .ok (.iconst 0, 1) := by decide +kernel
theorem dX1_nearest_5 : decode cX1_nearest 5 = .ok (.istore 4, 2) := by decide +kernel
theorem dX1_nearest_7 : decode cX1_nearest 7 = .ok (.iload 4, 2) := by decide +kernel
theorem dX1_nearest_9 : decode cX1_nearest 9 = .ok (.bipush 8, 2) := by decide +kernel
theorem dX1_nearest_11 : decode cX1_nearest 11 = .ok (.if_icmp .ge 26, 3) := by decide +kernel
theorem dX1_nearest_14 : decode cX1_nearest 14 = .ok (.iload_n 1, 1) := by decide +kernel
theorem dX1_nearest_15 : decode cX1_nearest 15 = .ok (.iload_n 3, 1) := by decide +kernel
theorem dX1_nearest_16 : decode cX1_nearest 16 = .ok (.iand, 1) := by decide +kernel
theorem dX1_nearest_17 : decode cX1_nearest 17 = .ok (.ifCond .eq 6, 3) := by decide +kernel
theorem dX1_nearest_23 : decode cX1_nearest 23 = .ok (.iload_n 3, 1) := by decide +kernel
theorem dX1_nearest_24 : decode cX1_nearest 24 = .ok (.aload_n 0, 1) := by decide +kernel
theorem dX1_nearest_25 : decode cX1_nearest 25 = .ok (.iload_n 3, 1) := by decide +kernel
theorem dX1_nearest_26 : decode cX1_nearest 26 = .ok (.invokevirtual 32, 3) := by decide +kernel
theorem dX1_nearest_29 : decode cX1_nearest 29 = .ok (.ior, 1) := by decide +kernel
theorem dX1_nearest_30 : decode cX1_nearest 30 = .ok (.istore_n 3, 1) := by decide +kernel
theorem dX1_nearest_31 : decode cX1_nearest 31 = .ok (.iinc 4 1, 3) := by decide +kernel
theorem dX1_nearest_34 : decode cX1_nearest 34 = .ok (.goto (-27), 3) := by decide +kernel
theorem dX1_nearest_37 : decode cX1_nearest 37 = .ok (.iconst (-1), 1) := by decide +kernel
theorem dX1_nearest_38 : decode cX1_nearest 38 = .ok (.ireturn, 1) := by decide +kernel
theorem dX1_nearest_20 : decode cX1_nearest 20 = .ok (.iload 4, 2) := by decide +kernel
theorem dX1_nearest_22 : decode cX1_nearest 22 = .ok (.ireturn, 1) := by decide +kernel
theorem dX8_distance_0 : decode cX8_distance 0 = .ok (.iload_n 1, 1) := by decide +kernel
theorem dX8_distance_1 : decode cX8_distance 1 = .ok (.invokestatic 70, 3) := by decide +kernel
theorem dX8_distance_4 : decode cX8_distance 4 = .ok (.iload_n 2, 1) := by decide +kernel
theorem dX8_distance_5 : decode cX8_distance 5 = .ok (.invokestatic 70, 3) := by decide +kernel
theorem dX8_distance_8 : decode cX8_distance 8 = .ok (.aload_n 0, 1) := by decide +kernel
theorem dX8_distance_9 : decode cX8_distance 9 = .ok (.getfield 19, 3) := by decide +kernel
theorem dX8_distance_12 : decode cX8_distance 12 = .ok (.iconst 1, 1) := by decide +kernel
theorem dX8_distance_13 : decode cX8_distance 13 = .ok (.iload_n 1, 1) := by decide +kernel
theorem dX8_distance_14 : decode cX8_distance 14 = .ok (.ishl, 1) := by decide +kernel
theorem dX8_distance_15 : decode cX8_distance 15 = .ok (.iload_n 2, 1) := by decide +kernel
theorem dX8_distance_16 : decode cX8_distance 16 = .ok (.invokevirtual 85, 3) := by decide +kernel
theorem dX8_distance_19 : decode cX8_distance 19 = .ok (.ireturn, 1) := by decide +kernel
theorem dX8_setRules_0 : decode cX8_setRules 0 = .ok (.iload_n 1, 1) := by decide +kernel
theorem dX8_setRules_1 : decode cX8_setRules 1 = .ok (.invokestatic 70, 3) := by decide +kernel
theorem dX8_setRules_4 : decode cX8_setRules 4 = .ok (.iload_n 2, 1) := by decide +kernel
theorem dX8_setRules_5 : decode cX8_setRules 5 = .ok (.iconst 2, 1) := by decide +kernel
theorem dX8_setRules_6 : decode cX8_setRules 6 = .ok (.iconst 4, 1) := by decide +kernel
theorem dX8_setRules_7 : decode cX8_setRules 7 = .ok (.invokestatic 38, 3) := by decide +kernel
theorem dX8_setRules_10 : decode cX8_setRules 10 = .ok (.ifCond .eq 44, 3) := by decide +kernel
theorem dX8_setRules_54 : decode cX8_setRules 54 = .ok (.new 43, 3) := by decide +kernel
theorem dX8_setRules_57 : decode cX8_setRules 57 = .ok (.dup, 1) := by decide +kernel
theorem dX8_setRules_58 : decode cX8_setRules 58 = .ok (.invokespecial 45, 3) := by decide +kernel
theorem dX8_setRules_61 : decode cX8_setRules 61 = .ok (.athrow, 1) := by decide +kernel
theorem dX8_setRules_13 : decode cX8_setRules 13 = .ok (.iload_n 3, 1) := by decide +kernel
theorem dX8_setRules_14 : decode cX8_setRules 14 = .ok (.iconst 0, 1) := by decide +kernel
theorem dX8_setRules_15 : decode cX8_setRules 15 = .ok (.bipush 100, 2) := by decide +kernel
theorem dX8_setRules_17 : decode cX8_setRules 17 = .ok (.invokestatic 38, 3) := by decide +kernel
theorem dX8_setRules_20 : decode cX8_setRules 20 = .ok (.ifCond .eq 34, 3) := by decide +kernel
theorem dX8_setRules_23 : decode cX8_setRules 23 = .ok (.iload 4, 2) := by decide +kernel
theorem dX8_setRules_25 : decode cX8_setRules 25 = .ok (.iconst 0, 1) := by decide +kernel
theorem dX8_setRules_26 : decode cX8_setRules 26 = .ok (.iload_n 3, 1) := by decide +kernel
theorem dX8_setRules_27 : decode cX8_setRules 27 = .ok (.invokestatic 38, 3) := by decide +kernel
theorem dX8_setRules_30 : decode cX8_setRules 30 = .ok (.ifCond .eq 24, 3) := by decide +kernel
theorem dX8_setRules_33 : decode cX8_setRules 33 = .ok (.iload 5, 2) := by decide +kernel
theorem dX8_setRules_35 : decode cX8_setRules 35 = .ok (.bipush 111, 2) := by decide +kernel
theorem dX8_setRules_37 : decode cX8_setRules 37 = .ok (.if_icmp .eq 25, 3) := by decide +kernel
theorem dX8_setRules_62 : decode cX8_setRules 62 = .ok (.aload_n 0, 1) := by decide +kernel
theorem dX8_setRules_63 : decode cX8_setRules 63 = .ok (.getfield 19, 3) := by decide +kernel
theorem dX8_setRules_66 : decode cX8_setRules 66 = .ok (.getfield 328, 3) := by decide +kernel
theorem dX8_setRules_69 : decode cX8_setRules 69 = .ok (.iload_n 1, 1) := by decide +kernel
theorem dX8_setRules_70 : decode cX8_setRules 70 = .ok (.caload, 1) := by decide +kernel
theorem dX8_setRules_71 : decode cX8_setRules 71 = .ok (.istore 6, 2) := by decide +kernel
theorem dX8_setRules_73 : decode cX8_setRules 73 = .ok (.aload_n 0, 1) := by decide +kernel
theorem dX8_setRules_74 : decode cX8_setRules 74 = .ok (.getfield 19, 3) := by decide +kernel
theorem dX8_setRules_77 : decode cX8_setRules 77 = .ok (.getfield 331, 3) := by decide +kernel
theorem dX8_setRules_80 : decode cX8_setRules 80 = .ok (.iload_n 1, 1) := by decide +kernel
theorem dX8_setRules_81 : decode cX8_setRules 81 = .ok (.iload_n 2, 1) := by decide +kernel
theorem dX8_setRules_82 : decode cX8_setRules 82 = .ok (.iastore, 1) := by decide +kernel
theorem dX8_setRules_83 : decode cX8_setRules 83 = .ok (.aload_n 0, 1) := by decide +kernel
theorem dX8_setRules_84 : decode cX8_setRules 84 = .ok (.getfield 19, 3) := by decide +kernel
theorem dX8_setRules_87 : decode cX8_setRules 87 = .ok (.getfield 334, 3) := by decide +kernel
theorem dX8_setRules_90 : decode cX8_setRules 90 = .ok (.iload_n 1, 1) := by decide +kernel
theorem dX8_setRules_91 : decode cX8_setRules 91 = .ok (.iload_n 3, 1) := by decide +kernel
theorem dX8_setRules_92 : decode cX8_setRules 92 = .ok (.iastore, 1) := by decide +kernel
theorem dX8_setRules_93 : decode cX8_setRules 93 = .ok (.aload_n 0, 1) := by decide +kernel
theorem dX8_setRules_94 : decode cX8_setRules 94 = .ok (.getfield 19, 3) := by decide +kernel
theorem dX8_setRules_97 : decode cX8_setRules 97 = .ok (.getfield 337, 3) := by decide +kernel
theorem dX8_setRules_100 : decode cX8_setRules 100 = .ok (.iload_n 1, 1) := by decide +kernel
theorem dX8_setRules_101 : decode cX8_setRules 101 = .ok (.iload 4, 2) := by decide +kernel
theorem dX8_setRules_103 : decode cX8_setRules 103 = .ok (.iastore, 1) := by decide +kernel
theorem dX8_setRules_104 : decode cX8_setRules 104 = .ok (.aload_n 0, 1) := by decide +kernel
theorem dX8_setRules_105 : decode cX8_setRules 105 = .ok (.getfield 19, 3) := by decide +kernel
theorem dX8_setRules_108 : decode cX8_setRules 108 = .ok (.getfield 328, 3) := by decide +kernel
theorem dX8_setRules_111 : decode cX8_setRules 111 = .ok (.iload_n 1, 1) := by decide +kernel
theorem dX8_setRules_112 : decode cX8_setRules 112 = .ok (.iload 5, 2) := by decide +kernel
theorem dX8_setRules_114 : decode cX8_setRules 114 = .ok (.castore, 1) := by decide +kernel
theorem dX8_setRules_115 : decode cX8_setRules 115 = .ok (.iload 6, 2) := by decide +kernel
theorem dX8_setRules_117 : decode cX8_setRules 117 = .ok (.ireturn, 1) := by decide +kernel
theorem dX8_setRules_40 : decode cX8_setRules 40 = .ok (.iload 5, 2) := by decide +kernel
theorem dX8_setRules_42 : decode cX8_setRules 42 = .ok (.bipush 115, 2) := by decide +kernel
theorem dX8_setRules_44 : decode cX8_setRules 44 = .ok (.if_icmp .eq 18, 3) := by decide +kernel
theorem dX8_setRules_47 : decode cX8_setRules 47 = .ok (.iload 5, 2) := by decide +kernel
theorem dX8_setRules_49 : decode cX8_setRules 49 = .ok (.bipush 100, 2) := by decide +kernel
theorem dX8_setRules_51 : decode cX8_setRules 51 = .ok (.if_icmp .eq 11, 3) := by decide +kernel
theorem dX8_goOn_0 : decode cX8_goOn 0 = .ok (.iload_n 1, 1) := by decide +kernel
theorem dX8_goOn_1 : decode cX8_goOn 1 = .ok (.iconst 1, 1) := by decide +kernel
theorem dX8_goOn_2 : decode cX8_goOn 2 = .ok (.bipush 99, 2) := by decide +kernel
theorem dX8_goOn_4 : decode cX8_goOn 4 = .ok (.invokestatic 38, 3) := by decide +kernel
theorem dX8_goOn_7 : decode cX8_goOn 7 = .ok (.ifCond .ne 11, 3) := by decide +kernel
theorem dX8_goOn_18 : decode cX8_goOn 18 = .ok (.aload_n 0, 1) := by decide +kernel
theorem dX8_goOn_19 : decode cX8_goOn 19 = .ok (.dup, 1) := by decide +kernel
theorem dX8_goOn_20 : decode cX8_goOn 20 = .ok (.getfield 34, 3) := by decide +kernel
theorem dX8_goOn_23 : decode cX8_goOn 23 = .ok (.iload_n 1, 1) := by decide +kernel
theorem dX8_goOn_24 : decode cX8_goOn 24 = .ok (.iadd, 1) := by decide +kernel
theorem dX8_goOn_25 : decode cX8_goOn 25 = .ok (.putfield 34, 3) := by decide +kernel
theorem dX8_goOn_28 : decode cX8_goOn 28 = .ok (.iconst 0, 1) := by decide +kernel
theorem dX8_goOn_29 : decode cX8_goOn 29 = .ok (.istore_n 2, 1) := by decide +kernel
theorem dX8_goOn_30 : decode cX8_goOn 30 = .ok (.iconst 0, 1) := by decide +kernel
theorem dX8_goOn_31 : decode cX8_goOn 31 = .ok (.istore_n 3, 1) := by decide +kernel
theorem dX8_goOn_32 : decode cX8_goOn 32 = .ok (.iload_n 3, 1) := by decide +kernel
theorem dX8_goOn_33 : decode cX8_goOn 33 = .ok (.aload_n 0, 1) := by decide +kernel
theorem dX8_goOn_34 : decode cX8_goOn 34 = .ok (.getfield 26, 3) := by decide +kernel
theorem dX8_goOn_37 : decode cX8_goOn 37 = .ok (.invokevirtual 91, 3) := by decide +kernel
theorem dX8_goOn_40 : decode cX8_goOn 40 = .ok (.if_icmp .ge 30, 3) := by decide +kernel
theorem dX8_goOn_70 : decode cX8_goOn 70 = .ok (.iload_n 2, 1) := by decide +kernel
theorem dX8_goOn_71 : decode cX8_goOn 71 = .ok (.ireturn, 1) := by decide +kernel
theorem dX8_goOn_10 : decode cX8_goOn 10 = .ok (.new 43, 3) := by decide +kernel
theorem dX8_goOn_13 : decode cX8_goOn 13 = .ok (.dup, 1) := by decide +kernel
theorem dX8_goOn_14 : decode cX8_goOn 14 = .ok (.invokespecial 45, 3) := by decide +kernel
theorem dX8_goOn_17 : decode cX8_goOn 17 = .ok (.athrow, 1) := by decide +kernel
theorem dX8_publishedIn_0 : decode cX8_publishedIn 0 = .ok (.iconst 0, 1) := by decide +kernel
theorem dX8_publishedIn_1 : decode cX8_publishedIn 1 = .ok (.istore_n 2, 1) := by decide +kernel
theorem dX8_publishedIn_2 : decode cX8_publishedIn 2 = .ok (.iconst 0, 1) := by decide +kernel
theorem dX8_publishedIn_3 : decode cX8_publishedIn 3 = .ok (.istore_n 3, 1) := by decide +kernel
theorem dX8_publishedIn_4 : decode cX8_publishedIn 4 = .ok (.iload_n 3, 1) := by decide +kernel
theorem dX8_publishedIn_5 : decode cX8_publishedIn 5 = .ok (.aload_n 0, 1) := by decide +kernel
theorem dX8_publishedIn_6 : decode cX8_publishedIn 6 = .ok (.getfield 26, 3) := by decide +kernel
theorem dX8_publishedIn_9 : decode cX8_publishedIn 9 = .ok (.invokevirtual 91, 3) := by decide +kernel
theorem dX8_publishedIn_12 : decode cX8_publishedIn 12 = .ok (.if_icmp .ge 47, 3) := by decide +kernel
theorem dX8_publishedIn_59 : decode cX8_publishedIn 59 = .ok (.iload_n 2, 1) := by decide +kernel
theorem dX8_publishedIn_60 : decode cX8_publishedIn 60 = .ok (.ireturn, 1) := by decide +kernel
theorem dJ6_bitCount_0f7a4_0 : decode cJ6_bitCount_0f7a4 0 = .ok (.iload_n 0, 1) := by decide +kernel
theorem dJ6_bitCount_0f7a4_1 : decode cJ6_bitCount_0f7a4 1 = .ok (.iload_n 0, 1) := by decide +kernel
theorem dJ6_bitCount_0f7a4_2 : decode cJ6_bitCount_0f7a4 2 = .ok (.iconst 1, 1) := by decide +kernel
theorem dJ6_bitCount_0f7a4_3 : decode cJ6_bitCount_0f7a4 3 = .ok (.iushr, 1) := by decide +kernel
theorem dJ6_bitCount_0f7a4_4 : decode cJ6_bitCount_0f7a4 4 = .ok (.ldc_w 265, 3) := by decide +kernel
theorem dJ6_bitCount_0f7a4_7 : decode cJ6_bitCount_0f7a4 7 = .ok (.iand, 1) := by decide +kernel
theorem dJ6_bitCount_0f7a4_8 : decode cJ6_bitCount_0f7a4 8 = .ok (.isub, 1) := by decide +kernel
theorem dJ6_bitCount_0f7a4_9 : decode cJ6_bitCount_0f7a4 9 = .ok (.istore_n 0, 1) := by decide +kernel
theorem dJ6_bitCount_0f7a4_10 : decode cJ6_bitCount_0f7a4 10 = .ok (.iload_n 0, 1) := by decide +kernel
theorem dJ6_bitCount_0f7a4_11 : decode cJ6_bitCount_0f7a4 11 = .ok (.ldc_w 266, 3) := by decide +kernel
theorem dJ6_bitCount_0f7a4_14 : decode cJ6_bitCount_0f7a4 14 = .ok (.iand, 1) := by decide +kernel
theorem dJ6_bitCount_0f7a4_15 : decode cJ6_bitCount_0f7a4 15 = .ok (.iload_n 0, 1) := by decide +kernel
theorem dJ6_bitCount_0f7a4_16 : decode cJ6_bitCount_0f7a4 16 = .ok (.iconst 2, 1) := by decide +kernel
theorem dJ6_bitCount_0f7a4_17 : decode cJ6_bitCount_0f7a4 17 = .ok (.iushr, 1) := by decide +kernel
theorem dJ6_bitCount_0f7a4_18 : decode cJ6_bitCount_0f7a4 18 = .ok (.ldc_w 266, 3) := by decide +kernel
theorem dJ6_bitCount_0f7a4_21 : decode cJ6_bitCount_0f7a4 21 = .ok (.iand, 1) := by decide +kernel
theorem dJ6_bitCount_0f7a4_22 : decode cJ6_bitCount_0f7a4 22 = .ok (.iadd, 1) := by decide +kernel
theorem dJ6_bitCount_0f7a4_23 : decode cJ6_bitCount_0f7a4 23 = .ok (.istore_n 0, 1) := by decide +kernel
theorem dJ6_bitCount_0f7a4_24 : decode cJ6_bitCount_0f7a4 24 = .ok (.iload_n 0, 1) := by decide +kernel
theorem dJ6_bitCount_0f7a4_25 : decode cJ6_bitCount_0f7a4 25 = .ok (.iload_n 0, 1) := by decide +kernel
theorem dJ6_bitCount_0f7a4_26 : decode cJ6_bitCount_0f7a4 26 = .ok (.iconst 4, 1) := by decide +kernel
theorem dJ6_bitCount_0f7a4_27 : decode cJ6_bitCount_0f7a4 27 = .ok (.iushr, 1) := by decide +kernel
theorem dJ6_bitCount_0f7a4_28 : decode cJ6_bitCount_0f7a4 28 = .ok (.iadd, 1) := by decide +kernel
theorem dJ6_bitCount_0f7a4_29 : decode cJ6_bitCount_0f7a4 29 = .ok (.ldc_w 267, 3) := by decide +kernel
theorem dJ6_bitCount_0f7a4_32 : decode cJ6_bitCount_0f7a4 32 = .ok (.iand, 1) := by decide +kernel
theorem dJ6_bitCount_0f7a4_33 : decode cJ6_bitCount_0f7a4 33 = .ok (.istore_n 0, 1) := by decide +kernel
theorem dJ6_bitCount_0f7a4_34 : decode cJ6_bitCount_0f7a4 34 = .ok (.iload_n 0, 1) := by decide +kernel
theorem dJ6_bitCount_0f7a4_35 : decode cJ6_bitCount_0f7a4 35 = .ok (.iload_n 0, 1) := by decide +kernel
theorem dJ6_bitCount_0f7a4_36 : decode cJ6_bitCount_0f7a4 36 = .ok (.bipush 8, 2) := by decide +kernel
theorem dJ6_bitCount_0f7a4_38 : decode cJ6_bitCount_0f7a4 38 = .ok (.iushr, 1) := by decide +kernel
theorem dJ6_bitCount_0f7a4_39 : decode cJ6_bitCount_0f7a4 39 = .ok (.iadd, 1) := by decide +kernel
theorem dJ6_bitCount_0f7a4_40 : decode cJ6_bitCount_0f7a4 40 = .ok (.istore_n 0, 1) := by decide +kernel
theorem dJ6_bitCount_0f7a4_41 : decode cJ6_bitCount_0f7a4 41 = .ok (.iload_n 0, 1) := by decide +kernel
theorem dJ6_bitCount_0f7a4_42 : decode cJ6_bitCount_0f7a4 42 = .ok (.iload_n 0, 1) := by decide +kernel
theorem dJ6_bitCount_0f7a4_43 : decode cJ6_bitCount_0f7a4 43 = .ok (.bipush 16, 2) := by decide +kernel
theorem dJ6_bitCount_0f7a4_45 : decode cJ6_bitCount_0f7a4 45 = .ok (.iushr, 1) := by decide +kernel
theorem dJ6_bitCount_0f7a4_46 : decode cJ6_bitCount_0f7a4 46 = .ok (.iadd, 1) := by decide +kernel
theorem dJ6_bitCount_0f7a4_47 : decode cJ6_bitCount_0f7a4 47 = .ok (.istore_n 0, 1) := by decide +kernel
theorem dJ6_bitCount_0f7a4_48 : decode cJ6_bitCount_0f7a4 48 = .ok (.iload_n 0, 1) := by decide +kernel
theorem dJ6_bitCount_0f7a4_49 : decode cJ6_bitCount_0f7a4 49 = .ok (.bipush 63, 2) := by decide +kernel
theorem dJ6_bitCount_0f7a4_51 : decode cJ6_bitCount_0f7a4 51 = .ok (.iand, 1) := by decide +kernel
theorem dJ6_bitCount_0f7a4_52 : decode cJ6_bitCount_0f7a4 52 = .ok (.ireturn, 1) := by decide +kernel
theorem dX8_fieldIndex_0 : decode cX8_fieldIndex 0 = .ok (.iload_n 1, 1) := by decide +kernel
theorem dX8_fieldIndex_1 : decode cX8_fieldIndex 1 = .ok (.invokestatic 70, 3) := by decide +kernel
theorem dX8_fieldIndex_4 : decode cX8_fieldIndex 4 = .ok (.iload_n 2, 1) := by decide +kernel
theorem dX8_fieldIndex_5 : decode cX8_fieldIndex 5 = .ok (.iconst 1, 1) := by decide +kernel
theorem dX8_fieldIndex_6 : decode cX8_fieldIndex 6 = .ok (.sipush 9999, 3) := by decide +kernel
theorem dX8_fieldIndex_9 : decode cX8_fieldIndex 9 = .ok (.invokestatic 38, 3) := by decide +kernel
theorem dX8_fieldIndex_12 : decode cX8_fieldIndex 12 = .ok (.ifCond .ne 11, 3) := by decide +kernel
theorem dX8_fieldIndex_23 : decode cX8_fieldIndex 23 = .ok (.aload_n 0, 1) := by decide +kernel
theorem dX8_fieldIndex_24 : decode cX8_fieldIndex 24 = .ok (.iload_n 1, 1) := by decide +kernel
theorem dX8_fieldIndex_25 : decode cX8_fieldIndex 25 = .ok (.invokevirtual 394, 3) := by decide +kernel
theorem dX8_fieldIndex_28 : decode cX8_fieldIndex 28 = .ok (.istore_n 3, 1) := by decide +kernel
theorem dX8_fieldIndex_29 : decode cX8_fieldIndex 29 = .ok (.iload_n 3, 1) := by decide +kernel
theorem dX8_fieldIndex_30 : decode cX8_fieldIndex 30 = .ok (.invokestatic 76, 3) := by decide +kernel
theorem dX8_fieldIndex_33 : decode cX8_fieldIndex 33 = .ok (.istore 4, 2) := by decide +kernel
theorem dX8_fieldIndex_35 : decode cX8_fieldIndex 35 = .ok (.iload 4, 2) := by decide +kernel
theorem dX8_fieldIndex_37 : decode cX8_fieldIndex 37 = .ok (.ifCond .ne 11, 3) := by decide +kernel
theorem dX8_fieldIndex_40 : decode cX8_fieldIndex 40 = .ok (.new 397, 3) := by decide +kernel
theorem dX8_fieldIndex_43 : decode cX8_fieldIndex 43 = .ok (.dup, 1) := by decide +kernel
theorem dX8_fieldIndex_44 : decode cX8_fieldIndex 44 = .ok (.invokespecial 399, 3) := by decide +kernel
theorem dX8_fieldIndex_47 : decode cX8_fieldIndex 47 = .ok (.athrow, 1) := by decide +kernel
theorem dX8_fieldIndex_15 : decode cX8_fieldIndex 15 = .ok (.new 43, 3) := by decide +kernel
theorem dX8_fieldIndex_18 : decode cX8_fieldIndex 18 = .ok (.dup, 1) := by decide +kernel
theorem dX8_fieldIndex_19 : decode cX8_fieldIndex 19 = .ok (.invokespecial 45, 3) := by decide +kernel
theorem dX8_fieldIndex_22 : decode cX8_fieldIndex 22 = .ok (.athrow, 1) := by decide +kernel
theorem dX8_rings_0 : decode cX8_rings 0 = .ok (.iconst 0, 1) := by decide +kernel
theorem dX8_rings_1 : decode cX8_rings 1 = .ok (.istore_n 1, 1) := by decide +kernel
theorem dX8_rings_2 : decode cX8_rings 2 = .ok (.iload_n 1, 1) := by decide +kernel
theorem dX8_rings_3 : decode cX8_rings 3 = .ok (.aload_n 0, 1) := by decide +kernel
theorem dX8_rings_4 : decode cX8_rings 4 = .ok (.getfield 10, 3) := by decide +kernel
theorem dX8_rings_7 : decode cX8_rings 7 = .ok (.getfield 46, 3) := by decide +kernel
theorem dX8_rings_10 : decode cX8_rings 10 = .ok (.if_icmp .ge 20, 3) := by decide +kernel
theorem dX8_rings_30 : decode cX8_rings 30 = .ok (.iconst 0, 1) := by decide +kernel
theorem dX8_rings_31 : decode cX8_rings 31 = .ok (.istore_n 1, 1) := by decide +kernel
theorem dX8_rings_32 : decode cX8_rings 32 = .ok (.iconst 0, 1) := by decide +kernel
theorem dX8_rings_33 : decode cX8_rings 33 = .ok (.istore_n 2, 1) := by decide +kernel
theorem dX8_rings_34 : decode cX8_rings 34 = .ok (.iload_n 2, 1) := by decide +kernel
theorem dX8_rings_35 : decode cX8_rings 35 = .ok (.aload_n 0, 1) := by decide +kernel
theorem dX8_rings_36 : decode cX8_rings 36 = .ok (.getfield 10, 3) := by decide +kernel
theorem dX8_rings_39 : decode cX8_rings 39 = .ok (.getfield 46, 3) := by decide +kernel
theorem dX8_rings_42 : decode cX8_rings 42 = .ok (.if_icmp .ge 59, 3) := by decide +kernel
theorem dX8_rings_101 : decode cX8_rings 101 = .ok (.iload_n 1, 1) := by decide +kernel
theorem dX8_rings_102 : decode cX8_rings 102 = .ok (.ireturn, 1) := by decide +kernel
theorem dX8_checksum_0 : decode cX8_checksum 0 = .ok (.lconst 0, 1) := by decide +kernel
theorem dX8_checksum_1 : decode cX8_checksum 1 = .ok (.lstore_n 1, 1) := by decide +kernel
theorem dX8_checksum_2 : decode cX8_checksum 2 = .ok (.iconst 0, 1) := by decide +kernel
theorem dX8_checksum_3 : decode cX8_checksum 3 = .ok (.istore_n 3, 1) := by decide +kernel
theorem dX8_checksum_4 : decode cX8_checksum 4 = .ok (.iload_n 3, 1) := by decide +kernel
theorem dX8_checksum_5 : decode cX8_checksum 5 = .ok (.aload_n 0, 1) := by decide +kernel
theorem dX8_checksum_6 : decode cX8_checksum 6 = .ok (.getfield 26, 3) := by decide +kernel
theorem dX8_checksum_9 : decode cX8_checksum 9 = .ok (.invokevirtual 91, 3) := by decide +kernel
theorem dX8_checksum_12 : decode cX8_checksum 12 = .ok (.if_icmp .ge 28, 3) := by decide +kernel
theorem dX8_checksum_40 : decode cX8_checksum 40 = .ok (.lload_n 1, 1) := by decide +kernel
theorem dX8_checksum_41 : decode cX8_checksum 41 = .ok (.lreturn, 1) := by decide +kernel
theorem dX8_isSound_0 : decode cX8_isSound 0 = .ok (.iconst 0, 1) := by decide +kernel
theorem dX8_isSound_1 : decode cX8_isSound 1 = .ok (.istore_n 1, 1) := by decide +kernel
theorem dX8_isSound_2 : decode cX8_isSound 2 = .ok (.iload_n 1, 1) := by decide +kernel
theorem dX8_isSound_3 : decode cX8_isSound 3 = .ok (.aload_n 0, 1) := by decide +kernel
theorem dX8_isSound_4 : decode cX8_isSound 4 = .ok (.getfield 26, 3) := by decide +kernel
theorem dX8_isSound_7 : decode cX8_isSound 7 = .ok (.invokevirtual 91, 3) := by decide +kernel
theorem dX8_isSound_10 : decode cX8_isSound 10 = .ok (.if_icmp .ge 99, 3) := by decide +kernel
theorem dX8_isSound_109 : decode cX8_isSound 109 = .ok (.iconst 1, 1) := by decide +kernel
theorem dX8_isSound_110 : decode cX8_isSound 110 = .ok (.ireturn, 1) := by decide +kernel
theorem dX8_acceptedShare_0 : decode cX8_acceptedShare 0 = .ok (.aload_n 0, 1) := by decide +kernel
theorem dX8_acceptedShare_1 : decode cX8_acceptedShare 1 = .ok (.getfield 26, 3) := by decide +kernel
theorem dX8_acceptedShare_4 : decode cX8_acceptedShare 4 = .ok (.invokevirtual 91, 3) := by decide +kernel
theorem dX8_acceptedShare_7 : decode cX8_acceptedShare 7 = .ok (.istore_n 1, 1) := by decide +kernel
theorem dX8_acceptedShare_8 : decode cX8_acceptedShare 8 = .ok (.iload_n 1, 1) := by decide +kernel
theorem dX8_acceptedShare_9 : decode cX8_acceptedShare 9 = .ok (.ifCond .ne 11, 3) := by decide +kernel
theorem dX8_acceptedShare_12 : decode cX8_acceptedShare 12 = .ok (.new 397, 3) := by decide +kernel
theorem dX8_acceptedShare_15 : decode cX8_acceptedShare 15 = .ok (.dup, 1) := by decide +kernel
theorem dX8_acceptedShare_16 : decode cX8_acceptedShare 16 = .ok (.invokespecial 399, 3) := by decide +kernel
theorem dX8_acceptedShare_19 : decode cX8_acceptedShare 19 = .ok (.athrow, 1) := by decide +kernel
theorem dX8_meanScore_0 : decode cX8_meanScore 0 = .ok (.iconst 0, 1) := by decide +kernel
theorem dX8_meanScore_1 : decode cX8_meanScore 1 = .ok (.istore_n 1, 1) := by decide +kernel
theorem dX8_meanScore_2 : decode cX8_meanScore 2 = .ok (.iconst 0, 1) := by decide +kernel
theorem dX8_meanScore_3 : decode cX8_meanScore 3 = .ok (.istore_n 2, 1) := by decide +kernel
theorem dX8_meanScore_4 : decode cX8_meanScore 4 = .ok (.iconst 0, 1) := by decide +kernel
theorem dX8_meanScore_5 : decode cX8_meanScore 5 = .ok (.istore_n 3, 1) := by decide +kernel
theorem dX8_meanScore_6 : decode cX8_meanScore 6 = .ok (.iload_n 3, 1) := by decide +kernel
theorem dX8_meanScore_7 : decode cX8_meanScore 7 = .ok (.aload_n 0, 1) := by decide +kernel
theorem dX8_meanScore_8 : decode cX8_meanScore 8 = .ok (.getfield 10, 3) := by decide +kernel
theorem dX8_meanScore_11 : decode cX8_meanScore 11 = .ok (.getfield 46, 3) := by decide +kernel
theorem dX8_meanScore_14 : decode cX8_meanScore 14 = .ok (.if_icmp .ge 33, 3) := by decide +kernel
theorem dX8_meanScore_47 : decode cX8_meanScore 47 = .ok (.iload_n 2, 1) := by decide +kernel
theorem dX8_meanScore_48 : decode cX8_meanScore 48 = .ok (.ifCond .ne 11, 3) := by decide +kernel
theorem dX8_meanScore_51 : decode cX8_meanScore 51 = .ok (.new 397, 3) := by decide +kernel
theorem dX8_meanScore_54 : decode cX8_meanScore 54 = .ok (.dup, 1) := by decide +kernel
theorem dX8_meanScore_55 : decode cX8_meanScore 55 = .ok (.invokespecial 399, 3) := by decide +kernel
theorem dX8_meanScore_58 : decode cX8_meanScore 58 = .ok (.athrow, 1) := by decide +kernel
abbrev wzJ6_bitCount_0f7a4 : List Cond := .code yJ6_bitCount_0f7a4 cJ6_bitCount_0f7a4 1 (some .int) :: zx_G
abbrev wzX1_join : List Cond := .code yX1_join cX1_join 4 (some .boolean) :: zx_G
abbrev wzX1_nearest : List Cond := .code yX1_nearest cX1_nearest 5 (some .int) :: zx_G
abbrev wzX1_tiedTo : List Cond := .code yX1_tiedTo cX1_tiedTo 4 (some .int) :: zx_G
abbrev wzX4_enter : List Cond := .code yX4_enter cX4_enter 3 (some .int) :: zx_G
abbrev wzX8_acceptedShare : List Cond := .code yX8_acceptedShare cX8_acceptedShare 5 (some .float) :: zx_G
abbrev wzX8_addAuthor : List Cond := .code yX8_addAuthor cX8_addAuthor 5 (some .int) :: zx_G
abbrev wzX8_addEditor : List Cond := .code yX8_addEditor cX8_addEditor 3 (some .int) :: zx_G
abbrev wzX8_addPerson : List Cond := .code yX8_addPerson cX8_addPerson 3 (some .int) :: zx_G
abbrev wzX8_alarm : List Cond := .code yX8_alarm cX8_alarm 6 (some .boolean) :: zx_G
abbrev wzX8_answer : List Cond := .code yX8_answer cX8_answer 6 (some .int) :: zx_G
abbrev wzX8_appeal : List Cond := .code yX8_appeal cX8_appeal 4 (some .int) :: zx_G
abbrev wzX8_assign : List Cond := .code yX8_assign cX8_assign 4 (some .int) :: zx_G
abbrev wzX8_begin : List Cond := .code yX8_begin cX8_begin 5 (some .int) :: zx_G
abbrev wzX8_checksum : List Cond := .code yX8_checksum cX8_checksum 4 (some .long) :: zx_G
abbrev wzX8_circle : List Cond := .code yX8_circle cX8_circle 4 (some .int) :: zx_G
abbrev wzX8_cite : List Cond := .code yX8_cite cX8_cite 4 (some .int) :: zx_G
abbrev wzX8_claim : List Cond := .code yX8_claim cX8_claim 5 (some .int) :: zx_G
abbrev wzX8_complain : List Cond := .code yX8_complain cX8_complain 4 (some .int) :: zx_G
abbrev wzX8_correct : List Cond := .code yX8_correct cX8_correct 4 (some .int) :: zx_G
abbrev wzX8_decide : List Cond := .code yX8_decide cX8_decide 4 (some .char) :: zx_G
abbrev wzX8_distance : List Cond := .code yX8_distance cX8_distance 3 (some .int) :: zx_G
abbrev wzX8_dropAuthor : List Cond := .code yX8_dropAuthor cX8_dropAuthor 5 (some .int) :: zx_G
abbrev wzX8_dropCitation : List Cond := .code yX8_dropCitation cX8_dropCitation 4 (some .int) :: zx_G
abbrev wzX8_editorOf : List Cond := .code yX8_editorOf cX8_editorOf 3 (some .int) :: zx_G
abbrev wzX8_embargo : List Cond := .code yX8_embargo cX8_embargo 5 (some .int) :: zx_G
abbrev wzX8_equalTo : List Cond := .code yX8_equalTo cX8_equalTo 4 (some .int) :: zx_G
abbrev wzX8_evened : List Cond := .code yX8_evened cX8_evened 5 (some .int) :: zx_G
abbrev wzX8_fieldIndex : List Cond := .code yX8_fieldIndex cX8_fieldIndex 8 (some .float) :: zx_G
abbrev wzX8_goOn : List Cond := .code yX8_goOn cX8_goOn 4 (some .int) :: zx_G
abbrev wzX8_hasConcern : List Cond := .code yX8_hasConcern cX8_hasConcern 3 (some .boolean) :: zx_G
abbrev wzX8_haveConflict : List Cond := .code yX8_haveConflict cX8_haveConflict 3 (some .boolean) :: zx_G
abbrev wzX8_index : List Cond := .code yX8_index cX8_index 4 (some .int) :: zx_G
abbrev wzX8_invitation : List Cond := .code yX8_invitation cX8_invitation 4 (some .char) :: zx_G
abbrev wzX8_invite : List Cond := .code yX8_invite cX8_invite 7 (some .int) :: zx_G
abbrev wzX8_isRight : List Cond := .code yX8_isRight cX8_isRight 3 (some .boolean) :: zx_G
abbrev wzX8_isSound : List Cond := .code yX8_isSound cX8_isSound 4 (some .boolean) :: zx_G
abbrev wzX8_letter : List Cond := .code yX8_letter cX8_letter 4 (some .char) :: zx_G
abbrev wzX8_letters : List Cond := .code yX8_letters cX8_letters 3 (some .int) :: zx_G
abbrev wzX8_likeness : List Cond := .code yX8_likeness cX8_likeness 5 (some .int) :: zx_G
abbrev wzX8_meanScore : List Cond := .code yX8_meanScore cX8_meanScore 4 (some .double) :: zx_G
abbrev wzX8_meet : List Cond := .code yX8_meet cX8_meet 6 (some .int) :: zx_G
abbrev wzX8_move : List Cond := .code yX8_move cX8_move 4 (some .int) :: zx_G
abbrev wzX8_needPaper : List Cond := .code yX8_needPaper cX8_needPaper 2 none :: zx_G
abbrev wzX8_needPerson : List Cond := .code yX8_needPerson cX8_needPerson 2 none :: zx_G
abbrev wzX8_openPoints : List Cond := .code yX8_openPoints cX8_openPoints 3 (some .int) :: zx_G
abbrev wzX8_paperAt : List Cond := .code yX8_paperAt cX8_paperAt 2 (some (.object "Refereehall$Paper")) :: zx_G
abbrev wzX8_priority : List Cond := .code yX8_priority cX8_priority 3 (some .int) :: zx_G
abbrev wzX8_publicVersion : List Cond := .code yX8_publicVersion cX8_publicVersion 3 (some .int) :: zx_G
abbrev wzX8_publish : List Cond := .code yX8_publish cX8_publish 3 (some .int) :: zx_G
abbrev wzX8_publishedIn : List Cond := .code yX8_publishedIn cX8_publishedIn 5 (some .int) :: zx_G
abbrev wzX8_report : List Cond := .code yX8_report cX8_report 7 (some .int) :: zx_G
abbrev wzX8_retract : List Cond := .code yX8_retract cX8_retract 3 (some .int) :: zx_G
abbrev wzX8_revise : List Cond := .code yX8_revise cX8_revise 4 (some .int) :: zx_G
abbrev wzX8_rings : List Cond := .code yX8_rings cX8_rings 4 (some .int) :: zx_G
abbrev wzX8_seat : List Cond := .code yX8_seat cX8_seat 4 (some .int) :: zx_G
abbrev wzX8_sees : List Cond := .code yX8_sees cX8_sees 5 (some .boolean) :: zx_G
abbrev wzX8_sendAway : List Cond := .code yX8_sendAway cX8_sendAway 3 (some .int) :: zx_G
abbrev wzX8_setRules : List Cond := .code yX8_setRules cX8_setRules 7 (some .char) :: zx_G
abbrev wzX8_showAhead : List Cond := .code yX8_showAhead cX8_showAhead 3 (some .int) :: zx_G
abbrev wzX8_sign : List Cond := .code yX8_sign cX8_sign 4 (some .boolean) :: zx_G
abbrev wzX8_state : List Cond := .code yX8_state cX8_state 3 (some .char) :: zx_G
abbrev wzX8_step : List Cond := .code yX8_step cX8_step 5 (some .int) :: zx_G
abbrev wzX8_tellConflict : List Cond := .code yX8_tellConflict cX8_tellConflict 4 (some .boolean) :: zx_G
abbrev wzX8_tellMoney : List Cond := .code yX8_tellMoney cX8_tellMoney 5 (some .int) :: zx_G
abbrev wzX8_tie : List Cond := .code yX8_tie cX8_tie 3 (some .boolean) :: zx_G
abbrev wzX8_transfer : List Cond := .code yX8_transfer cX8_transfer 4 (some .int) :: zx_G
abbrev wzX8_vote : List Cond := .code yX8_vote cX8_vote 5 (some .char) :: zx_G
abbrev wzX8_withdraw : List Cond := .code yX8_withdraw cX8_withdraw 4 (some .char) :: zx_G
theorem mm_2 : (.selects RX8 yX8_needPerson yX8_needPerson : Cond) ∈ zx_G := zx_wi 2 (by decide +kernel) (by decide +kernel)
theorem mm_8 : (.selects RX8 yX8_paperAt yX8_paperAt : Cond) ∈ zx_G := zx_wi 8 (by decide +kernel) (by decide +kernel)
theorem mm_9 : (.selects RX8 yX8_needPaper yX8_needPaper : Cond) ∈ zx_G := zx_wi 9 (by decide +kernel) (by decide +kernel)
theorem mm_38 : (.selects RX8 yX8_publishedIn yX8_publishedIn : Cond) ∈ zx_G := zx_wi 38 (by decide +kernel) (by decide +kernel)
theorem mm_71 : (.initialized RX8 : Cond) ∈ zx_G := zx_wi 71 (by decide +kernel) (by decide +kernel)
theorem mm_88 : (.initialized "java/lang/IndexOutOfBoundsException" : Cond) ∈ zx_G := zx_wi 88 (by decide +kernel) (by decide +kernel)
theorem mm_95 : (.initialized RJ6 : Cond) ∈ zx_G := zx_wi 95 (by decide +kernel) (by decide +kernel)
theorem mm_112 : (.initialized "java/lang/ArithmeticException" : Cond) ∈ zx_G := zx_wi 112 (by decide +kernel) (by decide +kernel)
theorem mm_131 : (.fieldLink RX8 46 "Refereehall$People" "count" "I" : Cond) ∈ zx_G := zx_wi 131 (by decide +kernel) (by decide +kernel)
theorem mm_180 : (.fieldLink RX8 331 "Refereehall$Net" "needs" "[I" : Cond) ∈ zx_G := zx_wi 180 (by decide +kernel) (by decide +kernel)
theorem mm_182 : (.fieldLink RX8 334 "Refereehall$Net" "accepts" "[I" : Cond) ∈ zx_G := zx_wi 182 (by decide +kernel) (by decide +kernel)
theorem mm_184 : (.fieldLink RX8 337 "Refereehall$Net" "rejects" "[I" : Cond) ∈ zx_G := zx_wi 184 (by decide +kernel) (by decide +kernel)
theorem mm_186 : (.fieldLink RX8 328 "Refereehall$Net" "way" "[C" : Cond) ∈ zx_G := zx_wi 186 (by decide +kernel) (by decide +kernel)
theorem mm_252 : (.methodLink RX8 91 yJx4a65c_size_8abf5 : Cond) ∈ zx_G := zx_wi 252 (by decide +kernel) (by decide +kernel)
theorem mm_253 : (.instanceMethod yJx4a65c_size_8abf5 : Cond) ∈ zx_G := zx_wi 253 (by decide +kernel) (by decide +kernel)
theorem mm_254 : (.selects RJx4a65c yJx4a65c_size_8abf5 yJx4a65c_size_8abf5 : Cond) ∈ zx_G := zx_wi 254 (by decide +kernel) (by decide +kernel)
theorem mm_255 : (.code yJx4a65c_size_8abf5 cJx4a65c_size_8abf5 1 (some .int) : Cond) ∈ zx_G := zx_wi 255 (by decide +kernel) (by decide +kernel)
theorem mm_286 : (.static yX8_holds : Cond) ∈ zx_G := zx_wi 286 (by decide +kernel) (by decide +kernel)
theorem mm_287 : (.code yX8_holds cX8_holds 2 (some .boolean) : Cond) ∈ zx_G := zx_wi 287 (by decide +kernel) (by decide +kernel)
theorem mm_338 : (.methodLink RX8 38 yX8_isWithin : Cond) ∈ zx_G := zx_wi 338 (by decide +kernel) (by decide +kernel)
theorem mm_339 : (.static yX8_isWithin : Cond) ∈ zx_G := zx_wi 339 (by decide +kernel) (by decide +kernel)
theorem mm_340 : (.code yX8_isWithin cX8_isWithin 3 (some .boolean) : Cond) ∈ zx_G := zx_wi 340 (by decide +kernel) (by decide +kernel)
theorem mm_341 : (.constant RX8 42 (1048575) : Cond) ∈ zx_G := zx_wi 341 (by decide +kernel) (by decide +kernel)
theorem mm_425 : (.methodLink RX8 52 yX4_enter : Cond) ∈ zx_G := zx_wi 425 (by decide +kernel) (by decide +kernel)
theorem mm_426 : (.instanceMethod yX4_enter : Cond) ∈ zx_G := zx_wi 426 (by decide +kernel) (by decide +kernel)
theorem mm_427 : (.selects RX4 yX4_enter yX4_enter : Cond) ∈ zx_G := zx_wi 427 (by decide +kernel) (by decide +kernel)
theorem mm_428 : (.code yX4_enter cX4_enter 3 (some .int) : Cond) ∈ zx_G := zx_wi 428 (by decide +kernel) (by decide +kernel)
theorem mm_469 : (.methodLink RX8 56 yX8_needPerson : Cond) ∈ zx_G := zx_wi 469 (by decide +kernel) (by decide +kernel)
theorem mm_471 : (.instanceMethod yX8_needPerson : Cond) ∈ zx_G := zx_wi 471 (by decide +kernel) (by decide +kernel)
theorem mm_472 : (.code yX8_needPerson cX8_needPerson 2 none : Cond) ∈ zx_G := zx_wi 472 (by decide +kernel) (by decide +kernel)
theorem mm_473 : (.classLink RX8 408 "java/lang/IndexOutOfBoundsException" : Cond) ∈ zx_G := zx_wi 473 (by decide +kernel) (by decide +kernel)
theorem mm_529 : (.methodLink RX8 70 yX8_needField : Cond) ∈ zx_G := zx_wi 529 (by decide +kernel) (by decide +kernel)
theorem mm_530 : (.static yX8_needField : Cond) ∈ zx_G := zx_wi 530 (by decide +kernel) (by decide +kernel)
theorem mm_531 : (.code yX8_needField cX8_needField 1 none : Cond) ∈ zx_G := zx_wi 531 (by decide +kernel) (by decide +kernel)
theorem mm_532 : (.methodLink RX8 76 yJ6_bitCount_0f7a4 : Cond) ∈ zx_G := zx_wi 532 (by decide +kernel) (by decide +kernel)
theorem mm_533 : (.static yJ6_bitCount_0f7a4 : Cond) ∈ zx_G := zx_wi 533 (by decide +kernel) (by decide +kernel)
theorem mm_534 : (.code yJ6_bitCount_0f7a4 cJ6_bitCount_0f7a4 1 (some .int) : Cond) ∈ zx_G := zx_wi 534 (by decide +kernel) (by decide +kernel)
theorem mm_535 : (.constant RJ6 265 (1431655765) : Cond) ∈ zx_G := zx_wi 535 (by decide +kernel) (by decide +kernel)
theorem mm_536 : (.constant RJ6 266 (858993459) : Cond) ∈ zx_G := zx_wi 536 (by decide +kernel) (by decide +kernel)
theorem mm_537 : (.constant RJ6 267 (252645135) : Cond) ∈ zx_G := zx_wi 537 (by decide +kernel) (by decide +kernel)
theorem mm_545 : (.methodLink RX8 82 yX1_join : Cond) ∈ zx_G := zx_wi 545 (by decide +kernel) (by decide +kernel)
theorem mm_546 : (.instanceMethod yX1_join : Cond) ∈ zx_G := zx_wi 546 (by decide +kernel) (by decide +kernel)
theorem mm_547 : (.selects RX1 yX1_join yX1_join : Cond) ∈ zx_G := zx_wi 547 (by decide +kernel) (by decide +kernel)
theorem mm_548 : (.code yX1_join cX1_join 4 (some .boolean) : Cond) ∈ zx_G := zx_wi 548 (by decide +kernel) (by decide +kernel)
theorem mm_557 : (.methodLink RX8 85 yX1_nearest : Cond) ∈ zx_G := zx_wi 557 (by decide +kernel) (by decide +kernel)
theorem mm_558 : (.instanceMethod yX1_nearest : Cond) ∈ zx_G := zx_wi 558 (by decide +kernel) (by decide +kernel)
theorem mm_559 : (.selects RX1 yX1_nearest yX1_nearest : Cond) ∈ zx_G := zx_wi 559 (by decide +kernel) (by decide +kernel)
theorem mm_560 : (.code yX1_nearest cX1_nearest 5 (some .int) : Cond) ∈ zx_G := zx_wi 560 (by decide +kernel) (by decide +kernel)
theorem mm_561 : (.methodLink RX1 32 yX1_tiedTo : Cond) ∈ zx_G := zx_wi 561 (by decide +kernel) (by decide +kernel)
theorem mm_562 : (.instanceMethod yX1_tiedTo : Cond) ∈ zx_G := zx_wi 562 (by decide +kernel) (by decide +kernel)
theorem mm_563 : (.selects RX1 yX1_tiedTo yX1_tiedTo : Cond) ∈ zx_G := zx_wi 563 (by decide +kernel) (by decide +kernel)
theorem mm_564 : (.code yX1_tiedTo cX1_tiedTo 4 (some .int) : Cond) ∈ zx_G := zx_wi 564 (by decide +kernel) (by decide +kernel)
theorem mm_845 : (.methodLink RX8 123 yX8_paperAt : Cond) ∈ zx_G := zx_wi 845 (by decide +kernel) (by decide +kernel)
theorem mm_847 : (.instanceMethod yX8_paperAt : Cond) ∈ zx_G := zx_wi 847 (by decide +kernel) (by decide +kernel)
theorem mm_848 : (.code yX8_paperAt cX8_paperAt 2 (some (.object "Refereehall$Paper")) : Cond) ∈ zx_G := zx_wi 848 (by decide +kernel) (by decide +kernel)
theorem mm_849 : (.methodLink RX8 292 yX8_needPaper : Cond) ∈ zx_G := zx_wi 849 (by decide +kernel) (by decide +kernel)
theorem mm_851 : (.instanceMethod yX8_needPaper : Cond) ∈ zx_G := zx_wi 851 (by decide +kernel) (by decide +kernel)
theorem mm_852 : (.code yX8_needPaper cX8_needPaper 2 none : Cond) ∈ zx_G := zx_wi 852 (by decide +kernel) (by decide +kernel)
theorem mm_1485 : (.methodLink RX8 394 yX8_publishedIn : Cond) ∈ zx_G := zx_wi 1485 (by decide +kernel) (by decide +kernel)
theorem mm_1487 : (.instanceMethod yX8_publishedIn : Cond) ∈ zx_G := zx_wi 1487 (by decide +kernel) (by decide +kernel)
theorem mm_1488 : (.code yX8_publishedIn cX8_publishedIn 5 (some .int) : Cond) ∈ zx_G := zx_wi 1488 (by decide +kernel) (by decide +kernel)
theorem mm_1489 : (.classLink RX8 397 "java/lang/ArithmeticException" : Cond) ∈ zx_G := zx_wi 1489 (by decide +kernel) (by decide +kernel)
theorem tw_RX8_410 : ∀ w ∈ (vx_at0 RX8 410 "java/lang/IndexOutOfBoundsException" ["java/lang/RuntimeException", "java/lang/Exception"]).filter goodWord, w ∈ zx_G := zx_thw (by decide +kernel)
theorem tv_RX8_410 : ((vx_at0 RX8 410 "java/lang/IndexOutOfBoundsException" ["java/lang/RuntimeException", "java/lang/Exception"]).filter (fun w => !goodWord w)).all (fun w => zx_soft w && decide (w ∈ lw_tbl)) = true := by decide +kernel
theorem tw_RX8_399 : ∀ w ∈ (vx_at0 RX8 399 "java/lang/ArithmeticException" ["java/lang/RuntimeException", "java/lang/Exception"]).filter goodWord, w ∈ zx_G := zx_thw (by decide +kernel)
theorem tv_RX8_399 : ((vx_at0 RX8 399 "java/lang/ArithmeticException" ["java/lang/RuntimeException", "java/lang/Exception"]).filter (fun w => !goodWord w)).all (fun w => zx_soft w && decide (w ∈ lw_tbl)) = true := by decide +kernel
set_option maxHeartbeats 4000000 in
set_option maxRecDepth 100000 in
theorem c_X8_holds0 (l : Launch) (hst : l.stackTraces = false) (D : va_G) (cy : Nat → ClassId) (ed sz : Nat) (p1 : Int32) : Met l yX8_holds wzX8_holds ({ frames := 0, cells := 0, slots := 0, locals := 0 }) (zx_Pc D cy ed sz [.int 0, .int p1] []) (va_Qi (fun (r9 : Int32) (u9 : Unit) => r9 = 0) (fun (u9 : Unit) (t9 : State) => zx_At D cy (va_A [] sz) [] t9) (va_A [] sz)) 0 0 (va_A [] sz) := by
  refine Met.ofW (cc := cX8_holds) (maxL := 2) (ret := (some .boolean)) (by decide) rfl ?_
  intro p e s m args below meth c s₁ B hml hv
  obtain ⟨rfl, hsz, hP, hK, hD0, hZ, hN⟩ := hv
  have hx := B.exec
  have hb := B.bytes
  have hr := B.returns
  have hts := atoms_spec (ws := wzX8_holds) B.pre
  have hown : s.vm.findClass RX8 = some m.cls := findClass_of_methodNamed B.named
  have hlocks := B.notSynchronized
  subst hsz
  have hD := hD0.self (sz := s.heap.size)
  generalize hAe : va_A [] s.heap.size = A at hD hZ ⊢
  have hA : ∀ q : Nat, s.heap.size ≤ q → A q := fun q h => by rw [← hAe]; exact Or.inr h
  have hS : va_S A s.heap s.heap [] := va_S.rf
  have hP : va_P D vwCl [] s.heap := hP
  have hl := lv_entry ([.int 0, .int p1]) (n := 2) (Nat.le_of_ble_eq_true rfl)
  rw [lg_entry_eq]
  generalize (lg_sl ([.int 0, .int p1]) ++ List.replicate (2 - (lg_sl ([.int 0, .int p1])).length) Slot.unset).toArray = ls at hl ⊢
  have hl : lv_has ls 2 [(0, .int 0), (1, .int p1)] := hl
  refine lv_iload_n hx hb dX8_holds_0 rfl (lv_at hl 1 rfl) ?_
  refine lv_if_lt (tgt := 22) hx hb dX8_holds_1 (by decide) (fun c_142 => ?_) (fun c_142 => ?_)
  ·
    refine lv_iconst (v := 0) hx hb dX8_holds_22 (by decide) ?_
    have hP9 := hP.sub (ws' := []) [] rfl
    have hD9 := hD.sub (ws' := []) [] (by decide) rfl
    exact W.zret (v := 0) hx hb hr rfl (fun t ht hW => ⟨⟨0, (), rfl, rfl, zx_fin hP9 hD9 hK ht hW⟩, hS.F ht⟩) hS.2.2 dX8_holds_23
  ·
    refine lv_iload_n hx hb dX8_holds_4 rfl (lv_at hl 1 rfl) ?_
    refine lv_bipush (v := 32) hx hb dX8_holds_5 (by decide) ?_
    refine lv_icmp_ge (tgt := 22) hx hb dX8_holds_7 (by decide) (fun c_143 => ?_) (fun c_143 => ?_)
    ·
      refine lv_iconst (v := 0) hx hb dX8_holds_22 (by decide) ?_
      have hP9 := hP.sub (ws' := []) [] rfl
      have hD9 := hD.sub (ws' := []) [] (by decide) rfl
      exact W.zret (v := 0) hx hb hr rfl (fun t ht hW => ⟨⟨0, (), rfl, rfl, zx_fin hP9 hD9 hK ht hW⟩, hS.F ht⟩) hS.2.2 dX8_holds_23
    ·
      refine lv_iload_n hx hb dX8_holds_10 rfl (lv_at hl 0 rfl) ?_
      refine lv_iload_n hx hb dX8_holds_11 rfl (lv_at hl 1 rfl) ?_
      refine lv_ishr hx hb dX8_holds_12 ?_
      refine lv_topi (fun y9 ey9 => ?_)
      obtain rfl : y9 = 0 := ey9.trans (zx_shr0 _)
      refine lv_iconst (v := 1) hx hb dX8_holds_13 (by decide) ?_
      refine lv_iand hx hb dX8_holds_14 ?_
      refine lv_topi (fun y9 ey9 => ?_)
      obtain rfl : y9 = 0 := by rw [ey9] <;> decide
      refine lv_if_eq (tgt := 22) hx hb dX8_holds_15 (by decide) (fun _ => ?_) (fun c_144 => absurd (by decide) c_144)
      refine lv_iconst (v := 0) hx hb dX8_holds_22 (by decide) ?_
      have hP9 := hP.sub (ws' := []) [] rfl
      have hD9 := hD.sub (ws' := []) [] (by decide) rfl
      exact W.zret (v := 0) hx hb hr rfl (fun t ht hW => ⟨⟨0, (), rfl, rfl, zx_fin hP9 hD9 hK ht hW⟩, hS.F ht⟩) hS.2.2 dX8_holds_23
set_option maxHeartbeats 4000000 in
set_option maxRecDepth 100000 in
theorem c_X8_needPerson (l : Launch) (hst : l.stackTraces = false) (D : va_G) (cy : Nat → ClassId) (ed sz : Nat) (h : Nat) (pe : Nat) (ne : Nat) (pa : Nat) (ro : Nat) (dy : Int32) (a1 : Nat) (a2 : Nat) (a3 : Nat) (a4 : Nat) (a5 : Nat) (a6 : Nat) (a7 : Nat) (a8 : Nat) (a9 : Nat) (p0 : Int32) : vx_Met l yX8_needPerson wzX8_needPerson ({ frames := 6, cells := 1, slots := 6, locals := 81 }) (zx_Pc D cy ed sz [.ref h, .int p0] [(h, .inr (13, [.ref pe, .ref ne, .ref pa, .ref ro, .int dy])), (pe, .inr (9, [.int 0, .ref a1, .ref a2, .ref a3, .ref a4, .ref a5, .ref a6, .ref a7, .ref a8, .ref a9]))]) (va_Qv (fun (_ : Unit) => False) (fun (u9 : Unit) (t9 : State) => zx_At D cy (va_A [(h, .inr (13, [.ref pe, .ref ne, .ref pa, .ref ro, .int dy])), (pe, .inr (9, [.int 0, .ref a1, .ref a2, .ref a3, .ref a4, .ref a5, .ref a6, .ref a7, .ref a8, .ref a9]))] sz) [] t9) (va_A [(h, .inr (13, [.ref pe, .ref ne, .ref pa, .ref ro, .int dy])), (pe, .inr (9, [.int 0, .ref a1, .ref a2, .ref a3, .ref a4, .ref a5, .ref a6, .ref a7, .ref a8, .ref a9]))] sz)) (zx_X (fun E9 => E9 = "java/lang/IndexOutOfBoundsException") (va_A [(h, .inr (13, [.ref pe, .ref ne, .ref pa, .ref ro, .int dy])), (pe, .inr (9, [.int 0, .ref a1, .ref a2, .ref a3, .ref a4, .ref a5, .ref a6, .ref a7, .ref a8, .ref a9]))] sz)) 1 6 (va_A [(h, .inr (13, [.ref pe, .ref ne, .ref pa, .ref ro, .int dy])), (pe, .inr (9, [.int 0, .ref a1, .ref a2, .ref a3, .ref a4, .ref a5, .ref a6, .ref a7, .ref a8, .ref a9]))] sz) := by
  refine vx_ofW (cc := cX8_needPerson) (maxL := 2) (ret := none) (by decide) rfl ?_
  intro p e s m args below meth c s₁ B hml htb hv
  obtain ⟨rfl, hsz, hP, hK, hD0, hZ, hN⟩ := hv
  have hx := B.exec
  have hb := B.bytes
  have hr := B.returns
  have hts := atoms_spec (ws := wzX8_needPerson) B.pre
  have hown : s.vm.findClass RX8 = some m.cls := findClass_of_methodNamed B.named
  have hlocks := B.notSynchronized
  subst hsz
  have hD := hD0.self (sz := s.heap.size)
  generalize hAe : va_A [(h, .inr (13, [.ref pe, .ref ne, .ref pa, .ref ro, .int dy])), (pe, .inr (9, [.int 0, .ref a1, .ref a2, .ref a3, .ref a4, .ref a5, .ref a6, .ref a7, .ref a8, .ref a9]))] s.heap.size = A at hD hZ ⊢
  have hA : ∀ q : Nat, s.heap.size ≤ q → A q := fun q h => by rw [← hAe]; exact Or.inr h
  have hS : va_S A s.heap s.heap [] := va_S.rf
  have hP : va_P D vwCl [(h, .inr (13, [.ref pe, .ref ne, .ref pa, .ref ro, .int dy])), (pe, .inr (9, [.int 0, .ref a1, .ref a2, .ref a3, .ref a4, .ref a5, .ref a6, .ref a7, .ref a8, .ref a9]))] s.heap := hP
  have hl := lv_entry ([.ref h, .int p0]) (n := 2) (Nat.le_of_ble_eq_true rfl)
  rw [lg_entry_eq]
  generalize (lg_sl ([.ref h, .int p0]) ++ List.replicate (2 - (lg_sl ([.ref h, .int p0])).length) Slot.unset).toArray = ls at hl ⊢
  have hl : lv_has ls 2 [(0, .ref h), (1, .int p0)] := hl
  refine lv_iload_n hx hb dX8_needPerson_0 rfl (lv_at hl 1 rfl) ?_
  refine lv_if_lt (tgt := 15) hx hb dX8_needPerson_1 (by decide) (fun c_145 => ?_) (fun c_145 => ?_)
  ·
    have hat9 : ∀ w ∈ (vx_at0 RX8 410 "java/lang/IndexOutOfBoundsException" ["java/lang/RuntimeException", "java/lang/Exception"]).filter goodWord, w ∈ wzX8_needPerson := fun w h => zx_Gc (tw_RX8_410 w h)
    exact vx_throw0 (names := ["java/lang/RuntimeException", "java/lang/Exception"]) hx hb hst hown (by decide +kernel) (by decide +kernel) (hts (.classLink RX8 408 "java/lang/IndexOutOfBoundsException") (zx_Gc mm_473)) (hts (.initialized "java/lang/IndexOutOfBoundsException") (zx_Gc mm_88)) (vx_hat (B := (vx_at0 RX8 410 "java/lang/IndexOutOfBoundsException" ["java/lang/RuntimeException", "java/lang/Exception"]).filter (fun w => !goodWord w)) (fun w9 h9 => hts w9 (hat9 w9 h9)) (fun _ h9 => h9) (zx_softs tv_RX8_410 hN)) (by decide +kernel) hZ.1 hZ.2.1 hS (hl.1.trans hml.symm) dX8_needPerson_15 dX8_needPerson_18 dX8_needPerson_19 dX8_needPerson_22 (fun x9 h9 => absurd h9 (htb x9)) (Nat.le_of_ble_eq_true rfl) (Nat.le_of_ble_eq_true rfl) (Nat.le_of_ble_eq_true rfl) (Nat.le_of_ble_eq_true rfl) hlocks (zx_thr (P := (fun E9 => E9 = "java/lang/IndexOutOfBoundsException")) hS (rfl)) hS.2.2 (Nat.le_of_ble_eq_true rfl) (Nat.le_of_ble_eq_true rfl)
  ·
    refine lv_iload_n hx hb dX8_needPerson_4 rfl (lv_at hl 1 rfl) ?_
    refine lv_aload_n hx hb dX8_needPerson_5 rfl (lv_at hl 0 rfl) ?_
    refine va_get (D := D) (ci := 13) (v := .ref pe) (C := RX8) (T := TX8) (N := 5) hx hb hts (fun w h => zx_Gc (uz_X8 w h)) hown hK hP 0 rfl rfl 0 (by decide) (hts (.fieldLink RX8 10 "Refereehall" "people" "LRefereehall$People;") (zx_Gc mm_228)) (fun _ h9 => h9) rfl dX8_needPerson_6 ?_
    refine va_get (D := D) (ci := 9) (v := .int 0) (C := RX4) (T := TX4) (N := 10) hx hb hts (fun w h => zx_Gc (uz_X4 w h)) hown hK hP 1 rfl rfl 0 (by decide) (hts (.fieldLink RX8 46 "Refereehall$People" "count" "I") (zx_Gc mm_131)) (fun _ h9 => h9) rfl dX8_needPerson_9 ?_
    refine lv_icmp_lt (tgt := 23) hx hb dX8_needPerson_12 (by decide) (fun c_146 => ?_) (fun c_146 => ?_)
    ·
      exact absurd c_146 c_145
    ·
      have hat9 : ∀ w ∈ (vx_at0 RX8 410 "java/lang/IndexOutOfBoundsException" ["java/lang/RuntimeException", "java/lang/Exception"]).filter goodWord, w ∈ wzX8_needPerson := fun w h => zx_Gc (tw_RX8_410 w h)
      exact vx_throw0 (names := ["java/lang/RuntimeException", "java/lang/Exception"]) hx hb hst hown (by decide +kernel) (by decide +kernel) (hts (.classLink RX8 408 "java/lang/IndexOutOfBoundsException") (zx_Gc mm_473)) (hts (.initialized "java/lang/IndexOutOfBoundsException") (zx_Gc mm_88)) (vx_hat (B := (vx_at0 RX8 410 "java/lang/IndexOutOfBoundsException" ["java/lang/RuntimeException", "java/lang/Exception"]).filter (fun w => !goodWord w)) (fun w9 h9 => hts w9 (hat9 w9 h9)) (fun _ h9 => h9) (zx_softs tv_RX8_410 hN)) (by decide +kernel) hZ.1 hZ.2.1 hS (hl.1.trans hml.symm) dX8_needPerson_15 dX8_needPerson_18 dX8_needPerson_19 dX8_needPerson_22 (fun x9 h9 => absurd h9 (htb x9)) (Nat.le_of_ble_eq_true rfl) (Nat.le_of_ble_eq_true rfl) (Nat.le_of_ble_eq_true rfl) (Nat.le_of_ble_eq_true rfl) hlocks (zx_thr (P := (fun E9 => E9 = "java/lang/IndexOutOfBoundsException")) hS (rfl)) hS.2.2 (Nat.le_of_ble_eq_true rfl) (Nat.le_of_ble_eq_true rfl)
set_option maxHeartbeats 4000000 in
set_option maxRecDepth 100000 in
theorem c_X8_needPaper (l : Launch) (hst : l.stackTraces = false) (D : va_G) (cy : Nat → ClassId) (ed sz : Nat) (h : Nat) (pe : Nat) (ne : Nat) (pa : Nat) (ro : Nat) (dy : Int32) (mc : Int32) (el : Nat) (p0 : Int32) : vx_Met l yX8_needPaper wzX8_needPaper ({ frames := 6, cells := 1, slots := 6, locals := 81 }) (zx_Pc D cy ed sz [.ref h, .int p0] [(h, .inr (13, [.ref pe, .ref ne, .ref pa, .ref ro, .int dy])), (pa, .inr (4, [.int mc, .ref el, .int 0]))]) (va_Qv (fun (_ : Unit) => False) (fun (u9 : Unit) (t9 : State) => zx_At D cy (va_A [(h, .inr (13, [.ref pe, .ref ne, .ref pa, .ref ro, .int dy])), (pa, .inr (4, [.int mc, .ref el, .int 0]))] sz) [] t9) (va_A [(h, .inr (13, [.ref pe, .ref ne, .ref pa, .ref ro, .int dy])), (pa, .inr (4, [.int mc, .ref el, .int 0]))] sz)) (zx_X (fun E9 => E9 = "java/lang/IndexOutOfBoundsException") (va_A [(h, .inr (13, [.ref pe, .ref ne, .ref pa, .ref ro, .int dy])), (pa, .inr (4, [.int mc, .ref el, .int 0]))] sz)) 1 6 (va_A [(h, .inr (13, [.ref pe, .ref ne, .ref pa, .ref ro, .int dy])), (pa, .inr (4, [.int mc, .ref el, .int 0]))] sz) := by
  refine vx_ofW (cc := cX8_needPaper) (maxL := 2) (ret := none) (by decide) rfl ?_
  intro p e s m args below meth c s₁ B hml htb hv
  obtain ⟨rfl, hsz, hP, hK, hD0, hZ, hN⟩ := hv
  have hx := B.exec
  have hb := B.bytes
  have hr := B.returns
  have hts := atoms_spec (ws := wzX8_needPaper) B.pre
  have hown : s.vm.findClass RX8 = some m.cls := findClass_of_methodNamed B.named
  have hlocks := B.notSynchronized
  subst hsz
  have hD := hD0.self (sz := s.heap.size)
  generalize hAe : va_A [(h, .inr (13, [.ref pe, .ref ne, .ref pa, .ref ro, .int dy])), (pa, .inr (4, [.int mc, .ref el, .int 0]))] s.heap.size = A at hD hZ ⊢
  have hA : ∀ q : Nat, s.heap.size ≤ q → A q := fun q h => by rw [← hAe]; exact Or.inr h
  have hS : va_S A s.heap s.heap [] := va_S.rf
  have hP : va_P D vwCl [(h, .inr (13, [.ref pe, .ref ne, .ref pa, .ref ro, .int dy])), (pa, .inr (4, [.int mc, .ref el, .int 0]))] s.heap := hP
  have hl := lv_entry ([.ref h, .int p0]) (n := 2) (Nat.le_of_ble_eq_true rfl)
  rw [lg_entry_eq]
  generalize (lg_sl ([.ref h, .int p0]) ++ List.replicate (2 - (lg_sl ([.ref h, .int p0])).length) Slot.unset).toArray = ls at hl ⊢
  have hl : lv_has ls 2 [(0, .ref h), (1, .int p0)] := hl
  refine lv_iload_n hx hb dX8_needPaper_0 rfl (lv_at hl 1 rfl) ?_
  refine lv_if_lt (tgt := 15) hx hb dX8_needPaper_1 (by decide) (fun c_147 => ?_) (fun c_147 => ?_)
  ·
    have hat9 : ∀ w ∈ (vx_at0 RX8 410 "java/lang/IndexOutOfBoundsException" ["java/lang/RuntimeException", "java/lang/Exception"]).filter goodWord, w ∈ wzX8_needPaper := fun w h => zx_Gc (tw_RX8_410 w h)
    exact vx_throw0 (names := ["java/lang/RuntimeException", "java/lang/Exception"]) hx hb hst hown (by decide +kernel) (by decide +kernel) (hts (.classLink RX8 408 "java/lang/IndexOutOfBoundsException") (zx_Gc mm_473)) (hts (.initialized "java/lang/IndexOutOfBoundsException") (zx_Gc mm_88)) (vx_hat (B := (vx_at0 RX8 410 "java/lang/IndexOutOfBoundsException" ["java/lang/RuntimeException", "java/lang/Exception"]).filter (fun w => !goodWord w)) (fun w9 h9 => hts w9 (hat9 w9 h9)) (fun _ h9 => h9) (zx_softs tv_RX8_410 hN)) (by decide +kernel) hZ.1 hZ.2.1 hS (hl.1.trans hml.symm) dX8_needPaper_15 dX8_needPaper_18 dX8_needPaper_19 dX8_needPaper_22 (fun x9 h9 => absurd h9 (htb x9)) (Nat.le_of_ble_eq_true rfl) (Nat.le_of_ble_eq_true rfl) (Nat.le_of_ble_eq_true rfl) (Nat.le_of_ble_eq_true rfl) hlocks (zx_thr (P := (fun E9 => E9 = "java/lang/IndexOutOfBoundsException")) hS (rfl)) hS.2.2 (Nat.le_of_ble_eq_true rfl) (Nat.le_of_ble_eq_true rfl)
  ·
    refine lv_iload_n hx hb dX8_needPaper_4 rfl (lv_at hl 1 rfl) ?_
    refine lv_aload_n hx hb dX8_needPaper_5 rfl (lv_at hl 0 rfl) ?_
    refine va_get (D := D) (ci := 13) (v := .ref pa) (C := RX8) (T := TX8) (N := 5) hx hb hts (fun w h => zx_Gc (uz_X8 w h)) hown hK hP 0 rfl rfl 2 (by decide) (hts (.fieldLink RX8 26 "Refereehall" "papers" "Ljava/util/ArrayList;") (zx_Gc mm_230)) (fun _ h9 => h9) rfl dX8_needPaper_6 ?_
    have hPc := hP.sub (ws' := [(pa, .inr (4, [.int mc, .ref el, .int 0]))]) [1] rfl
    have hDc := hD.sub (ws' := [(pa, .inr (4, [.int mc, .ref el, .int 0]))]) [1] (by decide) rfl
    have hFc := va_free (wc := [(pa, .inr (4, [.int mc, .ref el, .int 0]))]) hD hS hA [1] rfl
    refine va_calli (va_runV (As := []) (rest := [.int p0]) ⟨hx, hb, hml, hown, hts⟩ (c_AL_size l hst D cy ed s.heap.size pa el mc 0) (cwV 0 hts (zx_GV mm_252 mm_253 mm_254 mm_77 mm_255) rfl rfl rfl (by decide +kernel) ⟨(Nat.le_of_ble_eq_true rfl), (Nat.le_of_ble_eq_true rfl)⟩) ⟨zx_blind, va_recv hK hPc (ci := 4) (q0 := 0) rfl rfl, zx_give hPc hK hDc hS hFc hZ hN⟩ rfl rfl hl.1 rfl (lv_room (Nat.le_of_ble_eq_true rfl)) dX8_needPaper_9 ⟨(Nat.le_of_ble_eq_true rfl), (Nat.le_of_ble_eq_true rfl)⟩) hS (fun q _ h => hFc q h) hFc (fun r9 u t H1 locs ht hvm hw hB hz1 hk1 hS => ?_)
    obtain rfl : r9 = 0 := hw
    obtain ⟨hP, hD⟩ := zx_join (wr := [(h, .inr (13, [.ref pe, .ref ne, .ref pa, .ref ro, .int dy]))]) (w1 := [(pa, .inr (4, [.int mc, .ref el, .int 0]))]) [1] [0] rfl rfl (by decide) (by decide) hP hD hk1 hFc hB ht
    generalize H1 = H at hP hS ⊢
    have hP : va_P D vwCl [(h, .inr (13, [.ref pe, .ref ne, .ref pa, .ref ro, .int dy])), (pa, .inr (4, [.int mc, .ref el, .int 0]))] H := hP
    have hD : va_D A [(h, .inr (13, [.ref pe, .ref ne, .ref pa, .ref ro, .int dy])), (pa, .inr (4, [.int mc, .ref el, .int 0]))] := hD
    refine W.widen (k := 0) (n := 0) (Nat.le_of_ble_eq_true rfl) (Nat.le_of_ble_eq_true rfl) ?_
    refine lv_icmp_lt (tgt := 23) hx hb dX8_needPaper_12 (by decide) (fun c_148 => ?_) (fun c_148 => ?_)
    ·
      exact absurd c_148 c_147
    ·
      have hat9 : ∀ w ∈ (vx_at0 RX8 410 "java/lang/IndexOutOfBoundsException" ["java/lang/RuntimeException", "java/lang/Exception"]).filter goodWord, w ∈ wzX8_needPaper := fun w h => zx_Gc (tw_RX8_410 w h)
      exact vx_throw0 (names := ["java/lang/RuntimeException", "java/lang/Exception"]) hx hb hst hown (by decide +kernel) (by decide +kernel) (hts (.classLink RX8 408 "java/lang/IndexOutOfBoundsException") (zx_Gc mm_473)) (hts (.initialized "java/lang/IndexOutOfBoundsException") (zx_Gc mm_88)) (vx_hat (B := (vx_at0 RX8 410 "java/lang/IndexOutOfBoundsException" ["java/lang/RuntimeException", "java/lang/Exception"]).filter (fun w => !goodWord w)) (fun w9 h9 => hts w9 (hat9 w9 h9)) (fun _ h9 => h9) (zx_softs tv_RX8_410 hN)) (by decide +kernel) hZ.1 hZ.2.1 hS (hl.1.trans hml.symm) dX8_needPaper_15 dX8_needPaper_18 dX8_needPaper_19 dX8_needPaper_22 (fun x9 h9 => absurd h9 (htb x9)) (Nat.le_of_ble_eq_true rfl) (Nat.le_of_ble_eq_true rfl) (Nat.le_of_ble_eq_true rfl) (Nat.le_of_ble_eq_true rfl) hlocks (zx_thr (P := (fun E9 => E9 = "java/lang/IndexOutOfBoundsException")) hS (rfl)) hS.2.2 (Nat.le_of_ble_eq_true rfl) (Nat.le_of_ble_eq_true rfl)
set_option maxHeartbeats 4000000 in
set_option maxRecDepth 100000 in
theorem c_X8_paperAt (l : Launch) (hst : l.stackTraces = false) (D : va_G) (cy : Nat → ClassId) (ed sz : Nat) (h : Nat) (pe : Nat) (ne : Nat) (pa : Nat) (ro : Nat) (dy : Int32) (mc : Int32) (el : Nat) (p0 : Int32) : vx_Met l yX8_paperAt wzX8_paperAt ({ frames := 7, cells := 1, slots := 6, locals := 102 }) (zx_Pc D cy ed sz [.ref h, .int p0] [(h, .inr (13, [.ref pe, .ref ne, .ref pa, .ref ro, .int dy])), (pa, .inr (4, [.int mc, .ref el, .int 0]))]) (va_Qq (fun (_ : Option Nat) (_ : Unit) => False) (fun (u9 : Unit) (t9 : State) => zx_At D cy (va_A [(h, .inr (13, [.ref pe, .ref ne, .ref pa, .ref ro, .int dy])), (pa, .inr (4, [.int mc, .ref el, .int 0]))] sz) [] t9) (va_A [(h, .inr (13, [.ref pe, .ref ne, .ref pa, .ref ro, .int dy])), (pa, .inr (4, [.int mc, .ref el, .int 0]))] sz)) (zx_X (fun E9 => E9 = "java/lang/IndexOutOfBoundsException") (va_A [(h, .inr (13, [.ref pe, .ref ne, .ref pa, .ref ro, .int dy])), (pa, .inr (4, [.int mc, .ref el, .int 0]))] sz)) 1 6 (va_A [(h, .inr (13, [.ref pe, .ref ne, .ref pa, .ref ro, .int dy])), (pa, .inr (4, [.int mc, .ref el, .int 0]))] sz) := by
  refine vx_ofW (cc := cX8_paperAt) (maxL := 2) (ret := (some (.object "Refereehall$Paper"))) (by decide) rfl ?_
  intro p e s m args below meth c s₁ B hml htb hv
  obtain ⟨rfl, hsz, hP, hK, hD0, hZ, hN⟩ := hv
  have hx := B.exec
  have hb := B.bytes
  have hr := B.returns
  have hts := atoms_spec (ws := wzX8_paperAt) B.pre
  have hown : s.vm.findClass RX8 = some m.cls := findClass_of_methodNamed B.named
  have hlocks := B.notSynchronized
  subst hsz
  have hD := hD0.self (sz := s.heap.size)
  generalize hAe : va_A [(h, .inr (13, [.ref pe, .ref ne, .ref pa, .ref ro, .int dy])), (pa, .inr (4, [.int mc, .ref el, .int 0]))] s.heap.size = A at hD hZ ⊢
  have hA : ∀ q : Nat, s.heap.size ≤ q → A q := fun q h => by rw [← hAe]; exact Or.inr h
  have hS : va_S A s.heap s.heap [] := va_S.rf
  have hP : va_P D vwCl [(h, .inr (13, [.ref pe, .ref ne, .ref pa, .ref ro, .int dy])), (pa, .inr (4, [.int mc, .ref el, .int 0]))] s.heap := hP
  have hl := lv_entry ([.ref h, .int p0]) (n := 2) (Nat.le_of_ble_eq_true rfl)
  rw [lg_entry_eq]
  generalize (lg_sl ([.ref h, .int p0]) ++ List.replicate (2 - (lg_sl ([.ref h, .int p0])).length) Slot.unset).toArray = ls at hl ⊢
  have hl : lv_has ls 2 [(0, .ref h), (1, .int p0)] := hl
  refine lv_aload_n hx hb dX8_paperAt_0 rfl (lv_at hl 0 rfl) ?_
  refine lv_iload_n hx hb dX8_paperAt_1 rfl (lv_at hl 1 rfl) ?_
  have hPc := hP.sub (ws' := [(h, .inr (13, [.ref pe, .ref ne, .ref pa, .ref ro, .int dy])), (pa, .inr (4, [.int mc, .ref el, .int 0]))]) [0, 1] rfl
  have hDc := hD.sub (ws' := [(h, .inr (13, [.ref pe, .ref ne, .ref pa, .ref ro, .int dy])), (pa, .inr (4, [.int mc, .ref el, .int 0]))]) [0, 1] (by decide) rfl
  have hFc := va_free (wc := [(h, .inr (13, [.ref pe, .ref ne, .ref pa, .ref ro, .int dy])), (pa, .inr (4, [.int mc, .ref el, .int 0]))]) hD hS hA [0, 1] rfl
  refine vx_callv (vx_runV (As := [.int p0]) (rest := []) ⟨hx, hb, hml, hown, hts⟩ (c_X8_needPaper l hst D cy ed s.heap.size h pe ne pa ro dy mc el p0) (cwV 1 hts (zx_GV mm_849 mm_851 mm_9 mm_71 mm_852) rfl rfl rfl (by decide +kernel) ⟨(Nat.le_of_ble_eq_true rfl), (Nat.le_of_ble_eq_true rfl)⟩) ⟨zx_blind, va_recv hK hPc (ci := 13) (q0 := 0) rfl rfl, zx_give hPc hK hDc hS hFc hZ hN⟩ rfl rfl hl.1 rfl (lv_room (Nat.le_of_ble_eq_true rfl)) dX8_paperAt_2 ⟨(Nat.le_of_ble_eq_true rfl), (Nat.le_of_ble_eq_true rfl)⟩) hS (fun q _ h => hFc q h) hFc (fun q _ h => hFc q h) (fun E9 ce9 q9 _ t H locs ht hvm _ hBX hz1 hk1 hS hce hcv hcl => ?_) (fun u t H locs ht hvm hw hB hz1 hk1 hS => ?_)
  · exact vx_out (fun x9 h9 => absurd h9 (htb x9)) hlocks hce hcv hcl (zx_pass (P := (fun E9 => E9 = "java/lang/IndexOutOfBoundsException")) hS (hBX)) hS.2.2 (Nat.le_of_ble_eq_true rfl) (Nat.le_of_ble_eq_true rfl)
  · exact hw.elim
set_option maxHeartbeats 4000000 in
set_option maxRecDepth 100000 in
theorem c_X8_tellConflict (l : Launch) (hst : l.stackTraces = false) (D : va_G) (cy : Nat → ClassId) (ed sz : Nat) (h : Nat) (pe : Nat) (ne : Nat) (pa : Nat) (ro : Nat) (dy : Int32) (a1 : Nat) (a2 : Nat) (a3 : Nat) (a4 : Nat) (a5 : Nat) (a6 : Nat) (a7 : Nat) (a8 : Nat) (a9 : Nat) (p0 : Int32) (p1 : Int32) : vx_Met l yX8_tellConflict wzX8_tellConflict ({ frames := 7, cells := 1, slots := 6, locals := 102 }) (zx_Pc D cy ed sz [.ref h, .int p0, .int p1] [(h, .inr (13, [.ref pe, .ref ne, .ref pa, .ref ro, .int dy])), (pe, .inr (9, [.int 0, .ref a1, .ref a2, .ref a3, .ref a4, .ref a5, .ref a6, .ref a7, .ref a8, .ref a9]))]) (va_Qi (fun (_ : Int32) (_ : Unit) => False) (fun (u9 : Unit) (t9 : State) => zx_At D cy (va_A [(h, .inr (13, [.ref pe, .ref ne, .ref pa, .ref ro, .int dy])), (pe, .inr (9, [.int 0, .ref a1, .ref a2, .ref a3, .ref a4, .ref a5, .ref a6, .ref a7, .ref a8, .ref a9]))] sz) [] t9) (va_A [(h, .inr (13, [.ref pe, .ref ne, .ref pa, .ref ro, .int dy])), (pe, .inr (9, [.int 0, .ref a1, .ref a2, .ref a3, .ref a4, .ref a5, .ref a6, .ref a7, .ref a8, .ref a9]))] sz)) (zx_X (fun E9 => E9 = "java/lang/IndexOutOfBoundsException") (va_A [(h, .inr (13, [.ref pe, .ref ne, .ref pa, .ref ro, .int dy])), (pe, .inr (9, [.int 0, .ref a1, .ref a2, .ref a3, .ref a4, .ref a5, .ref a6, .ref a7, .ref a8, .ref a9]))] sz)) 1 6 (va_A [(h, .inr (13, [.ref pe, .ref ne, .ref pa, .ref ro, .int dy])), (pe, .inr (9, [.int 0, .ref a1, .ref a2, .ref a3, .ref a4, .ref a5, .ref a6, .ref a7, .ref a8, .ref a9]))] sz) := by
  refine vx_ofW (cc := cX8_tellConflict) (maxL := 4) (ret := (some .boolean)) (by decide) rfl ?_
  intro p e s m args below meth c s₁ B hml htb hv
  obtain ⟨rfl, hsz, hP, hK, hD0, hZ, hN⟩ := hv
  have hx := B.exec
  have hb := B.bytes
  have hr := B.returns
  have hts := atoms_spec (ws := wzX8_tellConflict) B.pre
  have hown : s.vm.findClass RX8 = some m.cls := findClass_of_methodNamed B.named
  have hlocks := B.notSynchronized
  subst hsz
  have hD := hD0.self (sz := s.heap.size)
  generalize hAe : va_A [(h, .inr (13, [.ref pe, .ref ne, .ref pa, .ref ro, .int dy])), (pe, .inr (9, [.int 0, .ref a1, .ref a2, .ref a3, .ref a4, .ref a5, .ref a6, .ref a7, .ref a8, .ref a9]))] s.heap.size = A at hD hZ ⊢
  have hA : ∀ q : Nat, s.heap.size ≤ q → A q := fun q h => by rw [← hAe]; exact Or.inr h
  have hS : va_S A s.heap s.heap [] := va_S.rf
  have hP : va_P D vwCl [(h, .inr (13, [.ref pe, .ref ne, .ref pa, .ref ro, .int dy])), (pe, .inr (9, [.int 0, .ref a1, .ref a2, .ref a3, .ref a4, .ref a5, .ref a6, .ref a7, .ref a8, .ref a9]))] s.heap := hP
  have hl := lv_entry ([.ref h, .int p0, .int p1]) (n := 4) (Nat.le_of_ble_eq_true rfl)
  rw [lg_entry_eq]
  generalize (lg_sl ([.ref h, .int p0, .int p1]) ++ List.replicate (4 - (lg_sl ([.ref h, .int p0, .int p1])).length) Slot.unset).toArray = ls at hl ⊢
  have hl : lv_has ls 4 [(0, .ref h), (1, .int p0), (2, .int p1)] := hl
  refine lv_aload_n hx hb dX8_tellConflict_0 rfl (lv_at hl 0 rfl) ?_
  refine lv_iload_n hx hb dX8_tellConflict_1 rfl (lv_at hl 1 rfl) ?_
  have hPc := hP.sub (ws' := [(h, .inr (13, [.ref pe, .ref ne, .ref pa, .ref ro, .int dy])), (pe, .inr (9, [.int 0, .ref a1, .ref a2, .ref a3, .ref a4, .ref a5, .ref a6, .ref a7, .ref a8, .ref a9]))]) [0, 1] rfl
  have hDc := hD.sub (ws' := [(h, .inr (13, [.ref pe, .ref ne, .ref pa, .ref ro, .int dy])), (pe, .inr (9, [.int 0, .ref a1, .ref a2, .ref a3, .ref a4, .ref a5, .ref a6, .ref a7, .ref a8, .ref a9]))]) [0, 1] (by decide) rfl
  have hFc := va_free (wc := [(h, .inr (13, [.ref pe, .ref ne, .ref pa, .ref ro, .int dy])), (pe, .inr (9, [.int 0, .ref a1, .ref a2, .ref a3, .ref a4, .ref a5, .ref a6, .ref a7, .ref a8, .ref a9]))]) hD hS hA [0, 1] rfl
  refine vx_callv (vx_runV (As := [.int p0]) (rest := []) ⟨hx, hb, hml, hown, hts⟩ (c_X8_needPerson l hst D cy ed s.heap.size h pe ne pa ro dy a1 a2 a3 a4 a5 a6 a7 a8 a9 p0) (cwV 1 hts (zx_GV mm_469 mm_471 mm_2 mm_71 mm_472) rfl rfl rfl (by decide +kernel) ⟨(Nat.le_of_ble_eq_true rfl), (Nat.le_of_ble_eq_true rfl)⟩) ⟨zx_blind, va_recv hK hPc (ci := 13) (q0 := 0) rfl rfl, zx_give hPc hK hDc hS hFc hZ hN⟩ rfl rfl hl.1 rfl (lv_room (Nat.le_of_ble_eq_true rfl)) dX8_tellConflict_2 ⟨(Nat.le_of_ble_eq_true rfl), (Nat.le_of_ble_eq_true rfl)⟩) hS (fun q _ h => hFc q h) hFc (fun q _ h => hFc q h) (fun E9 ce9 q9 _ t H locs ht hvm _ hBX hz1 hk1 hS hce hcv hcl => ?_) (fun u t H locs ht hvm hw hB hz1 hk1 hS => ?_)
  · exact vx_out (fun x9 h9 => absurd h9 (htb x9)) hlocks hce hcv hcl (zx_pass (P := (fun E9 => E9 = "java/lang/IndexOutOfBoundsException")) hS (hBX)) hS.2.2 (Nat.le_of_ble_eq_true rfl) (Nat.le_of_ble_eq_true rfl)
  · exact hw.elim
set_option maxHeartbeats 4000000 in
set_option maxRecDepth 100000 in
theorem c_X8_haveConflict (l : Launch) (hst : l.stackTraces = false) (D : va_G) (cy : Nat → ClassId) (ed sz : Nat) (h : Nat) (pe : Nat) (ne : Nat) (pa : Nat) (ro : Nat) (dy : Int32) (a1 : Nat) (a2 : Nat) (a3 : Nat) (a4 : Nat) (a5 : Nat) (a6 : Nat) (a7 : Nat) (a8 : Nat) (a9 : Nat) (p0 : Int32) (p1 : Int32) : vx_Met l yX8_haveConflict wzX8_haveConflict ({ frames := 7, cells := 1, slots := 6, locals := 102 }) (zx_Pc D cy ed sz [.ref h, .int p0, .int p1] [(h, .inr (13, [.ref pe, .ref ne, .ref pa, .ref ro, .int dy])), (pe, .inr (9, [.int 0, .ref a1, .ref a2, .ref a3, .ref a4, .ref a5, .ref a6, .ref a7, .ref a8, .ref a9]))]) (va_Qi (fun (_ : Int32) (_ : Unit) => False) (fun (u9 : Unit) (t9 : State) => zx_At D cy (va_A [(h, .inr (13, [.ref pe, .ref ne, .ref pa, .ref ro, .int dy])), (pe, .inr (9, [.int 0, .ref a1, .ref a2, .ref a3, .ref a4, .ref a5, .ref a6, .ref a7, .ref a8, .ref a9]))] sz) [] t9) (va_A [(h, .inr (13, [.ref pe, .ref ne, .ref pa, .ref ro, .int dy])), (pe, .inr (9, [.int 0, .ref a1, .ref a2, .ref a3, .ref a4, .ref a5, .ref a6, .ref a7, .ref a8, .ref a9]))] sz)) (zx_X (fun E9 => E9 = "java/lang/IndexOutOfBoundsException") (va_A [(h, .inr (13, [.ref pe, .ref ne, .ref pa, .ref ro, .int dy])), (pe, .inr (9, [.int 0, .ref a1, .ref a2, .ref a3, .ref a4, .ref a5, .ref a6, .ref a7, .ref a8, .ref a9]))] sz)) 1 6 (va_A [(h, .inr (13, [.ref pe, .ref ne, .ref pa, .ref ro, .int dy])), (pe, .inr (9, [.int 0, .ref a1, .ref a2, .ref a3, .ref a4, .ref a5, .ref a6, .ref a7, .ref a8, .ref a9]))] sz) := by
  refine vx_ofW (cc := cX8_haveConflict) (maxL := 3) (ret := (some .boolean)) (by decide) rfl ?_
  intro p e s m args below meth c s₁ B hml htb hv
  obtain ⟨rfl, hsz, hP, hK, hD0, hZ, hN⟩ := hv
  have hx := B.exec
  have hb := B.bytes
  have hr := B.returns
  have hts := atoms_spec (ws := wzX8_haveConflict) B.pre
  have hown : s.vm.findClass RX8 = some m.cls := findClass_of_methodNamed B.named
  have hlocks := B.notSynchronized
  subst hsz
  have hD := hD0.self (sz := s.heap.size)
  generalize hAe : va_A [(h, .inr (13, [.ref pe, .ref ne, .ref pa, .ref ro, .int dy])), (pe, .inr (9, [.int 0, .ref a1, .ref a2, .ref a3, .ref a4, .ref a5, .ref a6, .ref a7, .ref a8, .ref a9]))] s.heap.size = A at hD hZ ⊢
  have hA : ∀ q : Nat, s.heap.size ≤ q → A q := fun q h => by rw [← hAe]; exact Or.inr h
  have hS : va_S A s.heap s.heap [] := va_S.rf
  have hP : va_P D vwCl [(h, .inr (13, [.ref pe, .ref ne, .ref pa, .ref ro, .int dy])), (pe, .inr (9, [.int 0, .ref a1, .ref a2, .ref a3, .ref a4, .ref a5, .ref a6, .ref a7, .ref a8, .ref a9]))] s.heap := hP
  have hl := lv_entry ([.ref h, .int p0, .int p1]) (n := 3) (Nat.le_of_ble_eq_true rfl)
  rw [lg_entry_eq]
  generalize (lg_sl ([.ref h, .int p0, .int p1]) ++ List.replicate (3 - (lg_sl ([.ref h, .int p0, .int p1])).length) Slot.unset).toArray = ls at hl ⊢
  have hl : lv_has ls 3 [(0, .ref h), (1, .int p0), (2, .int p1)] := hl
  refine lv_aload_n hx hb dX8_haveConflict_0 rfl (lv_at hl 0 rfl) ?_
  refine lv_iload_n hx hb dX8_haveConflict_1 rfl (lv_at hl 1 rfl) ?_
  have hPc := hP.sub (ws' := [(h, .inr (13, [.ref pe, .ref ne, .ref pa, .ref ro, .int dy])), (pe, .inr (9, [.int 0, .ref a1, .ref a2, .ref a3, .ref a4, .ref a5, .ref a6, .ref a7, .ref a8, .ref a9]))]) [0, 1] rfl
  have hDc := hD.sub (ws' := [(h, .inr (13, [.ref pe, .ref ne, .ref pa, .ref ro, .int dy])), (pe, .inr (9, [.int 0, .ref a1, .ref a2, .ref a3, .ref a4, .ref a5, .ref a6, .ref a7, .ref a8, .ref a9]))]) [0, 1] (by decide) rfl
  have hFc := va_free (wc := [(h, .inr (13, [.ref pe, .ref ne, .ref pa, .ref ro, .int dy])), (pe, .inr (9, [.int 0, .ref a1, .ref a2, .ref a3, .ref a4, .ref a5, .ref a6, .ref a7, .ref a8, .ref a9]))]) hD hS hA [0, 1] rfl
  refine vx_callv (vx_runV (As := [.int p0]) (rest := []) ⟨hx, hb, hml, hown, hts⟩ (c_X8_needPerson l hst D cy ed s.heap.size h pe ne pa ro dy a1 a2 a3 a4 a5 a6 a7 a8 a9 p0) (cwV 1 hts (zx_GV mm_469 mm_471 mm_2 mm_71 mm_472) rfl rfl rfl (by decide +kernel) ⟨(Nat.le_of_ble_eq_true rfl), (Nat.le_of_ble_eq_true rfl)⟩) ⟨zx_blind, va_recv hK hPc (ci := 13) (q0 := 0) rfl rfl, zx_give hPc hK hDc hS hFc hZ hN⟩ rfl rfl hl.1 rfl (lv_room (Nat.le_of_ble_eq_true rfl)) dX8_haveConflict_2 ⟨(Nat.le_of_ble_eq_true rfl), (Nat.le_of_ble_eq_true rfl)⟩) hS (fun q _ h => hFc q h) hFc (fun q _ h => hFc q h) (fun E9 ce9 q9 _ t H locs ht hvm _ hBX hz1 hk1 hS hce hcv hcl => ?_) (fun u t H locs ht hvm hw hB hz1 hk1 hS => ?_)
  · exact vx_out (fun x9 h9 => absurd h9 (htb x9)) hlocks hce hcv hcl (zx_pass (P := (fun E9 => E9 = "java/lang/IndexOutOfBoundsException")) hS (hBX)) hS.2.2 (Nat.le_of_ble_eq_true rfl) (Nat.le_of_ble_eq_true rfl)
  · exact hw.elim
set_option maxHeartbeats 4000000 in
set_option maxRecDepth 100000 in
theorem c_X8_sendAway (l : Launch) (hst : l.stackTraces = false) (D : va_G) (cy : Nat → ClassId) (ed sz : Nat) (h : Nat) (pe : Nat) (ne : Nat) (pa : Nat) (ro : Nat) (dy : Int32) (a1 : Nat) (a2 : Nat) (a3 : Nat) (a4 : Nat) (a5 : Nat) (a6 : Nat) (a7 : Nat) (a8 : Nat) (a9 : Nat) (p0 : Int32) (p1 : Int32) : vx_Met l yX8_sendAway wzX8_sendAway ({ frames := 7, cells := 1, slots := 6, locals := 102 }) (zx_Pc D cy ed sz [.ref h, .int p0, .int p1] [(h, .inr (13, [.ref pe, .ref ne, .ref pa, .ref ro, .int dy])), (pe, .inr (9, [.int 0, .ref a1, .ref a2, .ref a3, .ref a4, .ref a5, .ref a6, .ref a7, .ref a8, .ref a9]))]) (va_Qi (fun (_ : Int32) (_ : Unit) => False) (fun (u9 : Unit) (t9 : State) => zx_At D cy (va_A [(h, .inr (13, [.ref pe, .ref ne, .ref pa, .ref ro, .int dy])), (pe, .inr (9, [.int 0, .ref a1, .ref a2, .ref a3, .ref a4, .ref a5, .ref a6, .ref a7, .ref a8, .ref a9]))] sz) [] t9) (va_A [(h, .inr (13, [.ref pe, .ref ne, .ref pa, .ref ro, .int dy])), (pe, .inr (9, [.int 0, .ref a1, .ref a2, .ref a3, .ref a4, .ref a5, .ref a6, .ref a7, .ref a8, .ref a9]))] sz)) (zx_X (fun E9 => E9 = "java/lang/IndexOutOfBoundsException") (va_A [(h, .inr (13, [.ref pe, .ref ne, .ref pa, .ref ro, .int dy])), (pe, .inr (9, [.int 0, .ref a1, .ref a2, .ref a3, .ref a4, .ref a5, .ref a6, .ref a7, .ref a8, .ref a9]))] sz)) 1 6 (va_A [(h, .inr (13, [.ref pe, .ref ne, .ref pa, .ref ro, .int dy])), (pe, .inr (9, [.int 0, .ref a1, .ref a2, .ref a3, .ref a4, .ref a5, .ref a6, .ref a7, .ref a8, .ref a9]))] sz) := by
  refine vx_ofW (cc := cX8_sendAway) (maxL := 3) (ret := (some .int)) (by decide) rfl ?_
  intro p e s m args below meth c s₁ B hml htb hv
  obtain ⟨rfl, hsz, hP, hK, hD0, hZ, hN⟩ := hv
  have hx := B.exec
  have hb := B.bytes
  have hr := B.returns
  have hts := atoms_spec (ws := wzX8_sendAway) B.pre
  have hown : s.vm.findClass RX8 = some m.cls := findClass_of_methodNamed B.named
  have hlocks := B.notSynchronized
  subst hsz
  have hD := hD0.self (sz := s.heap.size)
  generalize hAe : va_A [(h, .inr (13, [.ref pe, .ref ne, .ref pa, .ref ro, .int dy])), (pe, .inr (9, [.int 0, .ref a1, .ref a2, .ref a3, .ref a4, .ref a5, .ref a6, .ref a7, .ref a8, .ref a9]))] s.heap.size = A at hD hZ ⊢
  have hA : ∀ q : Nat, s.heap.size ≤ q → A q := fun q h => by rw [← hAe]; exact Or.inr h
  have hS : va_S A s.heap s.heap [] := va_S.rf
  have hP : va_P D vwCl [(h, .inr (13, [.ref pe, .ref ne, .ref pa, .ref ro, .int dy])), (pe, .inr (9, [.int 0, .ref a1, .ref a2, .ref a3, .ref a4, .ref a5, .ref a6, .ref a7, .ref a8, .ref a9]))] s.heap := hP
  have hl := lv_entry ([.ref h, .int p0, .int p1]) (n := 3) (Nat.le_of_ble_eq_true rfl)
  rw [lg_entry_eq]
  generalize (lg_sl ([.ref h, .int p0, .int p1]) ++ List.replicate (3 - (lg_sl ([.ref h, .int p0, .int p1])).length) Slot.unset).toArray = ls at hl ⊢
  have hl : lv_has ls 3 [(0, .ref h), (1, .int p0), (2, .int p1)] := hl
  refine lv_aload_n hx hb dX8_sendAway_0 rfl (lv_at hl 0 rfl) ?_
  refine lv_iload_n hx hb dX8_sendAway_1 rfl (lv_at hl 1 rfl) ?_
  have hPc := hP.sub (ws' := [(h, .inr (13, [.ref pe, .ref ne, .ref pa, .ref ro, .int dy])), (pe, .inr (9, [.int 0, .ref a1, .ref a2, .ref a3, .ref a4, .ref a5, .ref a6, .ref a7, .ref a8, .ref a9]))]) [0, 1] rfl
  have hDc := hD.sub (ws' := [(h, .inr (13, [.ref pe, .ref ne, .ref pa, .ref ro, .int dy])), (pe, .inr (9, [.int 0, .ref a1, .ref a2, .ref a3, .ref a4, .ref a5, .ref a6, .ref a7, .ref a8, .ref a9]))]) [0, 1] (by decide) rfl
  have hFc := va_free (wc := [(h, .inr (13, [.ref pe, .ref ne, .ref pa, .ref ro, .int dy])), (pe, .inr (9, [.int 0, .ref a1, .ref a2, .ref a3, .ref a4, .ref a5, .ref a6, .ref a7, .ref a8, .ref a9]))]) hD hS hA [0, 1] rfl
  refine vx_callv (vx_runV (As := [.int p0]) (rest := []) ⟨hx, hb, hml, hown, hts⟩ (c_X8_needPerson l hst D cy ed s.heap.size h pe ne pa ro dy a1 a2 a3 a4 a5 a6 a7 a8 a9 p0) (cwV 1 hts (zx_GV mm_469 mm_471 mm_2 mm_71 mm_472) rfl rfl rfl (by decide +kernel) ⟨(Nat.le_of_ble_eq_true rfl), (Nat.le_of_ble_eq_true rfl)⟩) ⟨zx_blind, va_recv hK hPc (ci := 13) (q0 := 0) rfl rfl, zx_give hPc hK hDc hS hFc hZ hN⟩ rfl rfl hl.1 rfl (lv_room (Nat.le_of_ble_eq_true rfl)) dX8_sendAway_2 ⟨(Nat.le_of_ble_eq_true rfl), (Nat.le_of_ble_eq_true rfl)⟩) hS (fun q _ h => hFc q h) hFc (fun q _ h => hFc q h) (fun E9 ce9 q9 _ t H locs ht hvm _ hBX hz1 hk1 hS hce hcv hcl => ?_) (fun u t H locs ht hvm hw hB hz1 hk1 hS => ?_)
  · exact vx_out (fun x9 h9 => absurd h9 (htb x9)) hlocks hce hcv hcl (zx_pass (P := (fun E9 => E9 = "java/lang/IndexOutOfBoundsException")) hS (hBX)) hS.2.2 (Nat.le_of_ble_eq_true rfl) (Nat.le_of_ble_eq_true rfl)
  · exact hw.elim
set_option maxHeartbeats 4000000 in
set_option maxRecDepth 100000 in
theorem c_X8_addEditor (l : Launch) (hst : l.stackTraces = false) (D : va_G) (cy : Nat → ClassId) (ed sz : Nat) (h : Nat) (pe : Nat) (ne : Nat) (pa : Nat) (ro : Nat) (dy : Int32) (a1 : Nat) (a2 : Nat) (a3 : Nat) (a4 : Nat) (a5 : Nat) (a6 : Nat) (a7 : Nat) (a8 : Nat) (a9 : Nat) (p0 : Int32) (p1 : Int32) : vx_Met l yX8_addEditor wzX8_addEditor ({ frames := 7, cells := 1, slots := 6, locals := 102 }) (zx_Pc D cy ed sz [.ref h, .int p0, .int p1] [(h, .inr (13, [.ref pe, .ref ne, .ref pa, .ref ro, .int dy])), (pe, .inr (9, [.int 0, .ref a1, .ref a2, .ref a3, .ref a4, .ref a5, .ref a6, .ref a7, .ref a8, .ref a9]))]) (va_Qi (fun (_ : Int32) (_ : Unit) => False) (fun (u9 : Unit) (t9 : State) => zx_At D cy (va_A [(h, .inr (13, [.ref pe, .ref ne, .ref pa, .ref ro, .int dy])), (pe, .inr (9, [.int 0, .ref a1, .ref a2, .ref a3, .ref a4, .ref a5, .ref a6, .ref a7, .ref a8, .ref a9]))] sz) [] t9) (va_A [(h, .inr (13, [.ref pe, .ref ne, .ref pa, .ref ro, .int dy])), (pe, .inr (9, [.int 0, .ref a1, .ref a2, .ref a3, .ref a4, .ref a5, .ref a6, .ref a7, .ref a8, .ref a9]))] sz)) (zx_X (fun E9 => E9 = "java/lang/IndexOutOfBoundsException") (va_A [(h, .inr (13, [.ref pe, .ref ne, .ref pa, .ref ro, .int dy])), (pe, .inr (9, [.int 0, .ref a1, .ref a2, .ref a3, .ref a4, .ref a5, .ref a6, .ref a7, .ref a8, .ref a9]))] sz)) 1 6 (va_A [(h, .inr (13, [.ref pe, .ref ne, .ref pa, .ref ro, .int dy])), (pe, .inr (9, [.int 0, .ref a1, .ref a2, .ref a3, .ref a4, .ref a5, .ref a6, .ref a7, .ref a8, .ref a9]))] sz) := by
  refine vx_ofW (cc := cX8_addEditor) (maxL := 3) (ret := (some .int)) (by decide) rfl ?_
  intro p e s m args below meth c s₁ B hml htb hv
  obtain ⟨rfl, hsz, hP, hK, hD0, hZ, hN⟩ := hv
  have hx := B.exec
  have hb := B.bytes
  have hr := B.returns
  have hts := atoms_spec (ws := wzX8_addEditor) B.pre
  have hown : s.vm.findClass RX8 = some m.cls := findClass_of_methodNamed B.named
  have hlocks := B.notSynchronized
  subst hsz
  have hD := hD0.self (sz := s.heap.size)
  generalize hAe : va_A [(h, .inr (13, [.ref pe, .ref ne, .ref pa, .ref ro, .int dy])), (pe, .inr (9, [.int 0, .ref a1, .ref a2, .ref a3, .ref a4, .ref a5, .ref a6, .ref a7, .ref a8, .ref a9]))] s.heap.size = A at hD hZ ⊢
  have hA : ∀ q : Nat, s.heap.size ≤ q → A q := fun q h => by rw [← hAe]; exact Or.inr h
  have hS : va_S A s.heap s.heap [] := va_S.rf
  have hP : va_P D vwCl [(h, .inr (13, [.ref pe, .ref ne, .ref pa, .ref ro, .int dy])), (pe, .inr (9, [.int 0, .ref a1, .ref a2, .ref a3, .ref a4, .ref a5, .ref a6, .ref a7, .ref a8, .ref a9]))] s.heap := hP
  have hl := lv_entry ([.ref h, .int p0, .int p1]) (n := 3) (Nat.le_of_ble_eq_true rfl)
  rw [lg_entry_eq]
  generalize (lg_sl ([.ref h, .int p0, .int p1]) ++ List.replicate (3 - (lg_sl ([.ref h, .int p0, .int p1])).length) Slot.unset).toArray = ls at hl ⊢
  have hl : lv_has ls 3 [(0, .ref h), (1, .int p0), (2, .int p1)] := hl
  refine lv_aload_n hx hb dX8_addEditor_0 rfl (lv_at hl 0 rfl) ?_
  refine lv_iload_n hx hb dX8_addEditor_1 rfl (lv_at hl 1 rfl) ?_
  have hPc := hP.sub (ws' := [(h, .inr (13, [.ref pe, .ref ne, .ref pa, .ref ro, .int dy])), (pe, .inr (9, [.int 0, .ref a1, .ref a2, .ref a3, .ref a4, .ref a5, .ref a6, .ref a7, .ref a8, .ref a9]))]) [0, 1] rfl
  have hDc := hD.sub (ws' := [(h, .inr (13, [.ref pe, .ref ne, .ref pa, .ref ro, .int dy])), (pe, .inr (9, [.int 0, .ref a1, .ref a2, .ref a3, .ref a4, .ref a5, .ref a6, .ref a7, .ref a8, .ref a9]))]) [0, 1] (by decide) rfl
  have hFc := va_free (wc := [(h, .inr (13, [.ref pe, .ref ne, .ref pa, .ref ro, .int dy])), (pe, .inr (9, [.int 0, .ref a1, .ref a2, .ref a3, .ref a4, .ref a5, .ref a6, .ref a7, .ref a8, .ref a9]))]) hD hS hA [0, 1] rfl
  refine vx_callv (vx_runV (As := [.int p0]) (rest := []) ⟨hx, hb, hml, hown, hts⟩ (c_X8_needPerson l hst D cy ed s.heap.size h pe ne pa ro dy a1 a2 a3 a4 a5 a6 a7 a8 a9 p0) (cwV 1 hts (zx_GV mm_469 mm_471 mm_2 mm_71 mm_472) rfl rfl rfl (by decide +kernel) ⟨(Nat.le_of_ble_eq_true rfl), (Nat.le_of_ble_eq_true rfl)⟩) ⟨zx_blind, va_recv hK hPc (ci := 13) (q0 := 0) rfl rfl, zx_give hPc hK hDc hS hFc hZ hN⟩ rfl rfl hl.1 rfl (lv_room (Nat.le_of_ble_eq_true rfl)) dX8_addEditor_2 ⟨(Nat.le_of_ble_eq_true rfl), (Nat.le_of_ble_eq_true rfl)⟩) hS (fun q _ h => hFc q h) hFc (fun q _ h => hFc q h) (fun E9 ce9 q9 _ t H locs ht hvm _ hBX hz1 hk1 hS hce hcv hcl => ?_) (fun u t H locs ht hvm hw hB hz1 hk1 hS => ?_)
  · exact vx_out (fun x9 h9 => absurd h9 (htb x9)) hlocks hce hcv hcl (zx_pass (P := (fun E9 => E9 = "java/lang/IndexOutOfBoundsException")) hS (hBX)) hS.2.2 (Nat.le_of_ble_eq_true rfl) (Nat.le_of_ble_eq_true rfl)
  · exact hw.elim
set_option maxHeartbeats 4000000 in
set_option maxRecDepth 100000 in
theorem c_X8_begin (l : Launch) (hst : l.stackTraces = false) (D : va_G) (cy : Nat → ClassId) (ed sz : Nat) (h : Nat) (pe : Nat) (ne : Nat) (pa : Nat) (ro : Nat) (dy : Int32) (a1 : Nat) (a2 : Nat) (a3 : Nat) (a4 : Nat) (a5 : Nat) (a6 : Nat) (a7 : Nat) (a8 : Nat) (a9 : Nat) (p0 : Int32) (p1 : Int32) (p2 : Int32) : vx_Met l yX8_begin wzX8_begin ({ frames := 7, cells := 1, slots := 6, locals := 102 }) (zx_Pc D cy ed sz [.ref h, .int p0, .int p1, .int p2] [(h, .inr (13, [.ref pe, .ref ne, .ref pa, .ref ro, .int dy])), (pe, .inr (9, [.int 0, .ref a1, .ref a2, .ref a3, .ref a4, .ref a5, .ref a6, .ref a7, .ref a8, .ref a9]))]) (va_Qi (fun (_ : Int32) (_ : Unit) => False) (fun (u9 : Unit) (t9 : State) => zx_At D cy (va_A [(h, .inr (13, [.ref pe, .ref ne, .ref pa, .ref ro, .int dy])), (pe, .inr (9, [.int 0, .ref a1, .ref a2, .ref a3, .ref a4, .ref a5, .ref a6, .ref a7, .ref a8, .ref a9]))] sz) [] t9) (va_A [(h, .inr (13, [.ref pe, .ref ne, .ref pa, .ref ro, .int dy])), (pe, .inr (9, [.int 0, .ref a1, .ref a2, .ref a3, .ref a4, .ref a5, .ref a6, .ref a7, .ref a8, .ref a9]))] sz)) (zx_X (fun E9 => E9 = "java/lang/IndexOutOfBoundsException") (va_A [(h, .inr (13, [.ref pe, .ref ne, .ref pa, .ref ro, .int dy])), (pe, .inr (9, [.int 0, .ref a1, .ref a2, .ref a3, .ref a4, .ref a5, .ref a6, .ref a7, .ref a8, .ref a9]))] sz)) 1 6 (va_A [(h, .inr (13, [.ref pe, .ref ne, .ref pa, .ref ro, .int dy])), (pe, .inr (9, [.int 0, .ref a1, .ref a2, .ref a3, .ref a4, .ref a5, .ref a6, .ref a7, .ref a8, .ref a9]))] sz) := by
  refine vx_ofW (cc := cX8_begin) (maxL := 5) (ret := (some .int)) (by decide) rfl ?_
  intro p e s m args below meth c s₁ B hml htb hv
  obtain ⟨rfl, hsz, hP, hK, hD0, hZ, hN⟩ := hv
  have hx := B.exec
  have hb := B.bytes
  have hr := B.returns
  have hts := atoms_spec (ws := wzX8_begin) B.pre
  have hown : s.vm.findClass RX8 = some m.cls := findClass_of_methodNamed B.named
  have hlocks := B.notSynchronized
  subst hsz
  have hD := hD0.self (sz := s.heap.size)
  generalize hAe : va_A [(h, .inr (13, [.ref pe, .ref ne, .ref pa, .ref ro, .int dy])), (pe, .inr (9, [.int 0, .ref a1, .ref a2, .ref a3, .ref a4, .ref a5, .ref a6, .ref a7, .ref a8, .ref a9]))] s.heap.size = A at hD hZ ⊢
  have hA : ∀ q : Nat, s.heap.size ≤ q → A q := fun q h => by rw [← hAe]; exact Or.inr h
  have hS : va_S A s.heap s.heap [] := va_S.rf
  have hP : va_P D vwCl [(h, .inr (13, [.ref pe, .ref ne, .ref pa, .ref ro, .int dy])), (pe, .inr (9, [.int 0, .ref a1, .ref a2, .ref a3, .ref a4, .ref a5, .ref a6, .ref a7, .ref a8, .ref a9]))] s.heap := hP
  have hl := lv_entry ([.ref h, .int p0, .int p1, .int p2]) (n := 5) (Nat.le_of_ble_eq_true rfl)
  rw [lg_entry_eq]
  generalize (lg_sl ([.ref h, .int p0, .int p1, .int p2]) ++ List.replicate (5 - (lg_sl ([.ref h, .int p0, .int p1, .int p2])).length) Slot.unset).toArray = ls at hl ⊢
  have hl : lv_has ls 5 [(0, .ref h), (1, .int p0), (2, .int p1), (3, .int p2)] := hl
  refine lv_aload_n hx hb dX8_begin_0 rfl (lv_at hl 0 rfl) ?_
  refine lv_iload_n hx hb dX8_begin_1 rfl (lv_at hl 1 rfl) ?_
  have hPc := hP.sub (ws' := [(h, .inr (13, [.ref pe, .ref ne, .ref pa, .ref ro, .int dy])), (pe, .inr (9, [.int 0, .ref a1, .ref a2, .ref a3, .ref a4, .ref a5, .ref a6, .ref a7, .ref a8, .ref a9]))]) [0, 1] rfl
  have hDc := hD.sub (ws' := [(h, .inr (13, [.ref pe, .ref ne, .ref pa, .ref ro, .int dy])), (pe, .inr (9, [.int 0, .ref a1, .ref a2, .ref a3, .ref a4, .ref a5, .ref a6, .ref a7, .ref a8, .ref a9]))]) [0, 1] (by decide) rfl
  have hFc := va_free (wc := [(h, .inr (13, [.ref pe, .ref ne, .ref pa, .ref ro, .int dy])), (pe, .inr (9, [.int 0, .ref a1, .ref a2, .ref a3, .ref a4, .ref a5, .ref a6, .ref a7, .ref a8, .ref a9]))]) hD hS hA [0, 1] rfl
  refine vx_callv (vx_runV (As := [.int p0]) (rest := []) ⟨hx, hb, hml, hown, hts⟩ (c_X8_needPerson l hst D cy ed s.heap.size h pe ne pa ro dy a1 a2 a3 a4 a5 a6 a7 a8 a9 p0) (cwV 1 hts (zx_GV mm_469 mm_471 mm_2 mm_71 mm_472) rfl rfl rfl (by decide +kernel) ⟨(Nat.le_of_ble_eq_true rfl), (Nat.le_of_ble_eq_true rfl)⟩) ⟨zx_blind, va_recv hK hPc (ci := 13) (q0 := 0) rfl rfl, zx_give hPc hK hDc hS hFc hZ hN⟩ rfl rfl hl.1 rfl (lv_room (Nat.le_of_ble_eq_true rfl)) dX8_begin_2 ⟨(Nat.le_of_ble_eq_true rfl), (Nat.le_of_ble_eq_true rfl)⟩) hS (fun q _ h => hFc q h) hFc (fun q _ h => hFc q h) (fun E9 ce9 q9 _ t H locs ht hvm _ hBX hz1 hk1 hS hce hcv hcl => ?_) (fun u t H locs ht hvm hw hB hz1 hk1 hS => ?_)
  · exact vx_out (fun x9 h9 => absurd h9 (htb x9)) hlocks hce hcv hcl (zx_pass (P := (fun E9 => E9 = "java/lang/IndexOutOfBoundsException")) hS (hBX)) hS.2.2 (Nat.le_of_ble_eq_true rfl) (Nat.le_of_ble_eq_true rfl)
  · exact hw.elim
set_option maxHeartbeats 4000000 in
set_option maxRecDepth 100000 in
theorem c_X8_addAuthor (l : Launch) (hst : l.stackTraces = false) (D : va_G) (cy : Nat → ClassId) (ed sz : Nat) (h : Nat) (pe : Nat) (ne : Nat) (pa : Nat) (ro : Nat) (dy : Int32) (mc : Int32) (el : Nat) (p0 : Int32) (p1 : Int32) : vx_Met l yX8_addAuthor wzX8_addAuthor ({ frames := 8, cells := 1, slots := 6, locals := 123 }) (zx_Pc D cy ed sz [.ref h, .int p0, .int p1] [(h, .inr (13, [.ref pe, .ref ne, .ref pa, .ref ro, .int dy])), (pa, .inr (4, [.int mc, .ref el, .int 0]))]) (va_Qi (fun (_ : Int32) (_ : Unit) => False) (fun (u9 : Unit) (t9 : State) => zx_At D cy (va_A [(h, .inr (13, [.ref pe, .ref ne, .ref pa, .ref ro, .int dy])), (pa, .inr (4, [.int mc, .ref el, .int 0]))] sz) [] t9) (va_A [(h, .inr (13, [.ref pe, .ref ne, .ref pa, .ref ro, .int dy])), (pa, .inr (4, [.int mc, .ref el, .int 0]))] sz)) (zx_X (fun E9 => E9 = "java/lang/IndexOutOfBoundsException") (va_A [(h, .inr (13, [.ref pe, .ref ne, .ref pa, .ref ro, .int dy])), (pa, .inr (4, [.int mc, .ref el, .int 0]))] sz)) 1 6 (va_A [(h, .inr (13, [.ref pe, .ref ne, .ref pa, .ref ro, .int dy])), (pa, .inr (4, [.int mc, .ref el, .int 0]))] sz) := by
  refine vx_ofW (cc := cX8_addAuthor) (maxL := 5) (ret := (some .int)) (by decide) rfl ?_
  intro p e s m args below meth c s₁ B hml htb hv
  obtain ⟨rfl, hsz, hP, hK, hD0, hZ, hN⟩ := hv
  have hx := B.exec
  have hb := B.bytes
  have hr := B.returns
  have hts := atoms_spec (ws := wzX8_addAuthor) B.pre
  have hown : s.vm.findClass RX8 = some m.cls := findClass_of_methodNamed B.named
  have hlocks := B.notSynchronized
  subst hsz
  have hD := hD0.self (sz := s.heap.size)
  generalize hAe : va_A [(h, .inr (13, [.ref pe, .ref ne, .ref pa, .ref ro, .int dy])), (pa, .inr (4, [.int mc, .ref el, .int 0]))] s.heap.size = A at hD hZ ⊢
  have hA : ∀ q : Nat, s.heap.size ≤ q → A q := fun q h => by rw [← hAe]; exact Or.inr h
  have hS : va_S A s.heap s.heap [] := va_S.rf
  have hP : va_P D vwCl [(h, .inr (13, [.ref pe, .ref ne, .ref pa, .ref ro, .int dy])), (pa, .inr (4, [.int mc, .ref el, .int 0]))] s.heap := hP
  have hl := lv_entry ([.ref h, .int p0, .int p1]) (n := 5) (Nat.le_of_ble_eq_true rfl)
  rw [lg_entry_eq]
  generalize (lg_sl ([.ref h, .int p0, .int p1]) ++ List.replicate (5 - (lg_sl ([.ref h, .int p0, .int p1])).length) Slot.unset).toArray = ls at hl ⊢
  have hl : lv_has ls 5 [(0, .ref h), (1, .int p0), (2, .int p1)] := hl
  refine lv_aload_n hx hb dX8_addAuthor_0 rfl (lv_at hl 0 rfl) ?_
  refine lv_iload_n hx hb dX8_addAuthor_1 rfl (lv_at hl 1 rfl) ?_
  have hPc := hP.sub (ws' := [(h, .inr (13, [.ref pe, .ref ne, .ref pa, .ref ro, .int dy])), (pa, .inr (4, [.int mc, .ref el, .int 0]))]) [0, 1] rfl
  have hDc := hD.sub (ws' := [(h, .inr (13, [.ref pe, .ref ne, .ref pa, .ref ro, .int dy])), (pa, .inr (4, [.int mc, .ref el, .int 0]))]) [0, 1] (by decide) rfl
  have hFc := va_free (wc := [(h, .inr (13, [.ref pe, .ref ne, .ref pa, .ref ro, .int dy])), (pa, .inr (4, [.int mc, .ref el, .int 0]))]) hD hS hA [0, 1] rfl
  refine vx_callq (vx_runV (As := [.int p0]) (rest := []) ⟨hx, hb, hml, hown, hts⟩ (c_X8_paperAt l hst D cy ed s.heap.size h pe ne pa ro dy mc el p0) (cwV 1 hts (zx_GV mm_845 mm_847 mm_8 mm_71 mm_848) rfl rfl rfl (by decide +kernel) ⟨(Nat.le_of_ble_eq_true rfl), (Nat.le_of_ble_eq_true rfl)⟩) ⟨zx_blind, va_recv hK hPc (ci := 13) (q0 := 0) rfl rfl, zx_give hPc hK hDc hS hFc hZ hN⟩ rfl rfl hl.1 rfl (lv_room (Nat.le_of_ble_eq_true rfl)) dX8_addAuthor_2 ⟨(Nat.le_of_ble_eq_true rfl), (Nat.le_of_ble_eq_true rfl)⟩) hS (fun q _ h => hFc q h) hFc (fun q _ h => hFc q h) (fun E9 ce9 q9 _ t H locs ht hvm _ hBX hz1 hk1 hS hce hcv hcl => ?_) (fun r9 u t H locs ht hvm hw hB hz1 hk1 hS => ?_)
  · exact vx_out (fun x9 h9 => absurd h9 (htb x9)) hlocks hce hcv hcl (zx_pass (P := (fun E9 => E9 = "java/lang/IndexOutOfBoundsException")) hS (hBX)) hS.2.2 (Nat.le_of_ble_eq_true rfl) (Nat.le_of_ble_eq_true rfl)
  · exact hw.elim
set_option maxHeartbeats 4000000 in
set_option maxRecDepth 100000 in
theorem c_X8_dropAuthor (l : Launch) (hst : l.stackTraces = false) (D : va_G) (cy : Nat → ClassId) (ed sz : Nat) (h : Nat) (pe : Nat) (ne : Nat) (pa : Nat) (ro : Nat) (dy : Int32) (mc : Int32) (el : Nat) (p0 : Int32) (p1 : Int32) : vx_Met l yX8_dropAuthor wzX8_dropAuthor ({ frames := 8, cells := 1, slots := 6, locals := 123 }) (zx_Pc D cy ed sz [.ref h, .int p0, .int p1] [(h, .inr (13, [.ref pe, .ref ne, .ref pa, .ref ro, .int dy])), (pa, .inr (4, [.int mc, .ref el, .int 0]))]) (va_Qi (fun (_ : Int32) (_ : Unit) => False) (fun (u9 : Unit) (t9 : State) => zx_At D cy (va_A [(h, .inr (13, [.ref pe, .ref ne, .ref pa, .ref ro, .int dy])), (pa, .inr (4, [.int mc, .ref el, .int 0]))] sz) [] t9) (va_A [(h, .inr (13, [.ref pe, .ref ne, .ref pa, .ref ro, .int dy])), (pa, .inr (4, [.int mc, .ref el, .int 0]))] sz)) (zx_X (fun E9 => E9 = "java/lang/IndexOutOfBoundsException") (va_A [(h, .inr (13, [.ref pe, .ref ne, .ref pa, .ref ro, .int dy])), (pa, .inr (4, [.int mc, .ref el, .int 0]))] sz)) 1 6 (va_A [(h, .inr (13, [.ref pe, .ref ne, .ref pa, .ref ro, .int dy])), (pa, .inr (4, [.int mc, .ref el, .int 0]))] sz) := by
  refine vx_ofW (cc := cX8_dropAuthor) (maxL := 5) (ret := (some .int)) (by decide) rfl ?_
  intro p e s m args below meth c s₁ B hml htb hv
  obtain ⟨rfl, hsz, hP, hK, hD0, hZ, hN⟩ := hv
  have hx := B.exec
  have hb := B.bytes
  have hr := B.returns
  have hts := atoms_spec (ws := wzX8_dropAuthor) B.pre
  have hown : s.vm.findClass RX8 = some m.cls := findClass_of_methodNamed B.named
  have hlocks := B.notSynchronized
  subst hsz
  have hD := hD0.self (sz := s.heap.size)
  generalize hAe : va_A [(h, .inr (13, [.ref pe, .ref ne, .ref pa, .ref ro, .int dy])), (pa, .inr (4, [.int mc, .ref el, .int 0]))] s.heap.size = A at hD hZ ⊢
  have hA : ∀ q : Nat, s.heap.size ≤ q → A q := fun q h => by rw [← hAe]; exact Or.inr h
  have hS : va_S A s.heap s.heap [] := va_S.rf
  have hP : va_P D vwCl [(h, .inr (13, [.ref pe, .ref ne, .ref pa, .ref ro, .int dy])), (pa, .inr (4, [.int mc, .ref el, .int 0]))] s.heap := hP
  have hl := lv_entry ([.ref h, .int p0, .int p1]) (n := 5) (Nat.le_of_ble_eq_true rfl)
  rw [lg_entry_eq]
  generalize (lg_sl ([.ref h, .int p0, .int p1]) ++ List.replicate (5 - (lg_sl ([.ref h, .int p0, .int p1])).length) Slot.unset).toArray = ls at hl ⊢
  have hl : lv_has ls 5 [(0, .ref h), (1, .int p0), (2, .int p1)] := hl
  refine lv_aload_n hx hb dX8_dropAuthor_0 rfl (lv_at hl 0 rfl) ?_
  refine lv_iload_n hx hb dX8_dropAuthor_1 rfl (lv_at hl 1 rfl) ?_
  have hPc := hP.sub (ws' := [(h, .inr (13, [.ref pe, .ref ne, .ref pa, .ref ro, .int dy])), (pa, .inr (4, [.int mc, .ref el, .int 0]))]) [0, 1] rfl
  have hDc := hD.sub (ws' := [(h, .inr (13, [.ref pe, .ref ne, .ref pa, .ref ro, .int dy])), (pa, .inr (4, [.int mc, .ref el, .int 0]))]) [0, 1] (by decide) rfl
  have hFc := va_free (wc := [(h, .inr (13, [.ref pe, .ref ne, .ref pa, .ref ro, .int dy])), (pa, .inr (4, [.int mc, .ref el, .int 0]))]) hD hS hA [0, 1] rfl
  refine vx_callq (vx_runV (As := [.int p0]) (rest := []) ⟨hx, hb, hml, hown, hts⟩ (c_X8_paperAt l hst D cy ed s.heap.size h pe ne pa ro dy mc el p0) (cwV 1 hts (zx_GV mm_845 mm_847 mm_8 mm_71 mm_848) rfl rfl rfl (by decide +kernel) ⟨(Nat.le_of_ble_eq_true rfl), (Nat.le_of_ble_eq_true rfl)⟩) ⟨zx_blind, va_recv hK hPc (ci := 13) (q0 := 0) rfl rfl, zx_give hPc hK hDc hS hFc hZ hN⟩ rfl rfl hl.1 rfl (lv_room (Nat.le_of_ble_eq_true rfl)) dX8_dropAuthor_2 ⟨(Nat.le_of_ble_eq_true rfl), (Nat.le_of_ble_eq_true rfl)⟩) hS (fun q _ h => hFc q h) hFc (fun q _ h => hFc q h) (fun E9 ce9 q9 _ t H locs ht hvm _ hBX hz1 hk1 hS hce hcv hcl => ?_) (fun r9 u t H locs ht hvm hw hB hz1 hk1 hS => ?_)
  · exact vx_out (fun x9 h9 => absurd h9 (htb x9)) hlocks hce hcv hcl (zx_pass (P := (fun E9 => E9 = "java/lang/IndexOutOfBoundsException")) hS (hBX)) hS.2.2 (Nat.le_of_ble_eq_true rfl) (Nat.le_of_ble_eq_true rfl)
  · exact hw.elim
set_option maxHeartbeats 4000000 in
set_option maxRecDepth 100000 in
theorem c_X8_sign (l : Launch) (hst : l.stackTraces = false) (D : va_G) (cy : Nat → ClassId) (ed sz : Nat) (h : Nat) (pe : Nat) (ne : Nat) (pa : Nat) (ro : Nat) (dy : Int32) (mc : Int32) (el : Nat) (p0 : Int32) (p1 : Int32) : vx_Met l yX8_sign wzX8_sign ({ frames := 8, cells := 1, slots := 6, locals := 123 }) (zx_Pc D cy ed sz [.ref h, .int p0, .int p1] [(h, .inr (13, [.ref pe, .ref ne, .ref pa, .ref ro, .int dy])), (pa, .inr (4, [.int mc, .ref el, .int 0]))]) (va_Qi (fun (_ : Int32) (_ : Unit) => False) (fun (u9 : Unit) (t9 : State) => zx_At D cy (va_A [(h, .inr (13, [.ref pe, .ref ne, .ref pa, .ref ro, .int dy])), (pa, .inr (4, [.int mc, .ref el, .int 0]))] sz) [] t9) (va_A [(h, .inr (13, [.ref pe, .ref ne, .ref pa, .ref ro, .int dy])), (pa, .inr (4, [.int mc, .ref el, .int 0]))] sz)) (zx_X (fun E9 => E9 = "java/lang/IndexOutOfBoundsException") (va_A [(h, .inr (13, [.ref pe, .ref ne, .ref pa, .ref ro, .int dy])), (pa, .inr (4, [.int mc, .ref el, .int 0]))] sz)) 1 6 (va_A [(h, .inr (13, [.ref pe, .ref ne, .ref pa, .ref ro, .int dy])), (pa, .inr (4, [.int mc, .ref el, .int 0]))] sz) := by
  refine vx_ofW (cc := cX8_sign) (maxL := 4) (ret := (some .boolean)) (by decide) rfl ?_
  intro p e s m args below meth c s₁ B hml htb hv
  obtain ⟨rfl, hsz, hP, hK, hD0, hZ, hN⟩ := hv
  have hx := B.exec
  have hb := B.bytes
  have hr := B.returns
  have hts := atoms_spec (ws := wzX8_sign) B.pre
  have hown : s.vm.findClass RX8 = some m.cls := findClass_of_methodNamed B.named
  have hlocks := B.notSynchronized
  subst hsz
  have hD := hD0.self (sz := s.heap.size)
  generalize hAe : va_A [(h, .inr (13, [.ref pe, .ref ne, .ref pa, .ref ro, .int dy])), (pa, .inr (4, [.int mc, .ref el, .int 0]))] s.heap.size = A at hD hZ ⊢
  have hA : ∀ q : Nat, s.heap.size ≤ q → A q := fun q h => by rw [← hAe]; exact Or.inr h
  have hS : va_S A s.heap s.heap [] := va_S.rf
  have hP : va_P D vwCl [(h, .inr (13, [.ref pe, .ref ne, .ref pa, .ref ro, .int dy])), (pa, .inr (4, [.int mc, .ref el, .int 0]))] s.heap := hP
  have hl := lv_entry ([.ref h, .int p0, .int p1]) (n := 4) (Nat.le_of_ble_eq_true rfl)
  rw [lg_entry_eq]
  generalize (lg_sl ([.ref h, .int p0, .int p1]) ++ List.replicate (4 - (lg_sl ([.ref h, .int p0, .int p1])).length) Slot.unset).toArray = ls at hl ⊢
  have hl : lv_has ls 4 [(0, .ref h), (1, .int p0), (2, .int p1)] := hl
  refine lv_aload_n hx hb dX8_sign_0 rfl (lv_at hl 0 rfl) ?_
  refine lv_iload_n hx hb dX8_sign_1 rfl (lv_at hl 1 rfl) ?_
  have hPc := hP.sub (ws' := [(h, .inr (13, [.ref pe, .ref ne, .ref pa, .ref ro, .int dy])), (pa, .inr (4, [.int mc, .ref el, .int 0]))]) [0, 1] rfl
  have hDc := hD.sub (ws' := [(h, .inr (13, [.ref pe, .ref ne, .ref pa, .ref ro, .int dy])), (pa, .inr (4, [.int mc, .ref el, .int 0]))]) [0, 1] (by decide) rfl
  have hFc := va_free (wc := [(h, .inr (13, [.ref pe, .ref ne, .ref pa, .ref ro, .int dy])), (pa, .inr (4, [.int mc, .ref el, .int 0]))]) hD hS hA [0, 1] rfl
  refine vx_callq (vx_runV (As := [.int p0]) (rest := []) ⟨hx, hb, hml, hown, hts⟩ (c_X8_paperAt l hst D cy ed s.heap.size h pe ne pa ro dy mc el p0) (cwV 1 hts (zx_GV mm_845 mm_847 mm_8 mm_71 mm_848) rfl rfl rfl (by decide +kernel) ⟨(Nat.le_of_ble_eq_true rfl), (Nat.le_of_ble_eq_true rfl)⟩) ⟨zx_blind, va_recv hK hPc (ci := 13) (q0 := 0) rfl rfl, zx_give hPc hK hDc hS hFc hZ hN⟩ rfl rfl hl.1 rfl (lv_room (Nat.le_of_ble_eq_true rfl)) dX8_sign_2 ⟨(Nat.le_of_ble_eq_true rfl), (Nat.le_of_ble_eq_true rfl)⟩) hS (fun q _ h => hFc q h) hFc (fun q _ h => hFc q h) (fun E9 ce9 q9 _ t H locs ht hvm _ hBX hz1 hk1 hS hce hcv hcl => ?_) (fun r9 u t H locs ht hvm hw hB hz1 hk1 hS => ?_)
  · exact vx_out (fun x9 h9 => absurd h9 (htb x9)) hlocks hce hcv hcl (zx_pass (P := (fun E9 => E9 = "java/lang/IndexOutOfBoundsException")) hS (hBX)) hS.2.2 (Nat.le_of_ble_eq_true rfl) (Nat.le_of_ble_eq_true rfl)
  · exact hw.elim
set_option maxHeartbeats 4000000 in
set_option maxRecDepth 100000 in
theorem c_X8_revise (l : Launch) (hst : l.stackTraces = false) (D : va_G) (cy : Nat → ClassId) (ed sz : Nat) (h : Nat) (pe : Nat) (ne : Nat) (pa : Nat) (ro : Nat) (dy : Int32) (mc : Int32) (el : Nat) (p0 : Int32) (p1 : Int32) : vx_Met l yX8_revise wzX8_revise ({ frames := 8, cells := 1, slots := 6, locals := 123 }) (zx_Pc D cy ed sz [.ref h, .int p0, .int p1] [(h, .inr (13, [.ref pe, .ref ne, .ref pa, .ref ro, .int dy])), (pa, .inr (4, [.int mc, .ref el, .int 0]))]) (va_Qi (fun (_ : Int32) (_ : Unit) => False) (fun (u9 : Unit) (t9 : State) => zx_At D cy (va_A [(h, .inr (13, [.ref pe, .ref ne, .ref pa, .ref ro, .int dy])), (pa, .inr (4, [.int mc, .ref el, .int 0]))] sz) [] t9) (va_A [(h, .inr (13, [.ref pe, .ref ne, .ref pa, .ref ro, .int dy])), (pa, .inr (4, [.int mc, .ref el, .int 0]))] sz)) (zx_X (fun E9 => E9 = "java/lang/IndexOutOfBoundsException") (va_A [(h, .inr (13, [.ref pe, .ref ne, .ref pa, .ref ro, .int dy])), (pa, .inr (4, [.int mc, .ref el, .int 0]))] sz)) 1 6 (va_A [(h, .inr (13, [.ref pe, .ref ne, .ref pa, .ref ro, .int dy])), (pa, .inr (4, [.int mc, .ref el, .int 0]))] sz) := by
  refine vx_ofW (cc := cX8_revise) (maxL := 4) (ret := (some .int)) (by decide) rfl ?_
  intro p e s m args below meth c s₁ B hml htb hv
  obtain ⟨rfl, hsz, hP, hK, hD0, hZ, hN⟩ := hv
  have hx := B.exec
  have hb := B.bytes
  have hr := B.returns
  have hts := atoms_spec (ws := wzX8_revise) B.pre
  have hown : s.vm.findClass RX8 = some m.cls := findClass_of_methodNamed B.named
  have hlocks := B.notSynchronized
  subst hsz
  have hD := hD0.self (sz := s.heap.size)
  generalize hAe : va_A [(h, .inr (13, [.ref pe, .ref ne, .ref pa, .ref ro, .int dy])), (pa, .inr (4, [.int mc, .ref el, .int 0]))] s.heap.size = A at hD hZ ⊢
  have hA : ∀ q : Nat, s.heap.size ≤ q → A q := fun q h => by rw [← hAe]; exact Or.inr h
  have hS : va_S A s.heap s.heap [] := va_S.rf
  have hP : va_P D vwCl [(h, .inr (13, [.ref pe, .ref ne, .ref pa, .ref ro, .int dy])), (pa, .inr (4, [.int mc, .ref el, .int 0]))] s.heap := hP
  have hl := lv_entry ([.ref h, .int p0, .int p1]) (n := 4) (Nat.le_of_ble_eq_true rfl)
  rw [lg_entry_eq]
  generalize (lg_sl ([.ref h, .int p0, .int p1]) ++ List.replicate (4 - (lg_sl ([.ref h, .int p0, .int p1])).length) Slot.unset).toArray = ls at hl ⊢
  have hl : lv_has ls 4 [(0, .ref h), (1, .int p0), (2, .int p1)] := hl
  refine lv_aload_n hx hb dX8_revise_0 rfl (lv_at hl 0 rfl) ?_
  refine lv_iload_n hx hb dX8_revise_1 rfl (lv_at hl 1 rfl) ?_
  have hPc := hP.sub (ws' := [(h, .inr (13, [.ref pe, .ref ne, .ref pa, .ref ro, .int dy])), (pa, .inr (4, [.int mc, .ref el, .int 0]))]) [0, 1] rfl
  have hDc := hD.sub (ws' := [(h, .inr (13, [.ref pe, .ref ne, .ref pa, .ref ro, .int dy])), (pa, .inr (4, [.int mc, .ref el, .int 0]))]) [0, 1] (by decide) rfl
  have hFc := va_free (wc := [(h, .inr (13, [.ref pe, .ref ne, .ref pa, .ref ro, .int dy])), (pa, .inr (4, [.int mc, .ref el, .int 0]))]) hD hS hA [0, 1] rfl
  refine vx_callq (vx_runV (As := [.int p0]) (rest := []) ⟨hx, hb, hml, hown, hts⟩ (c_X8_paperAt l hst D cy ed s.heap.size h pe ne pa ro dy mc el p0) (cwV 1 hts (zx_GV mm_845 mm_847 mm_8 mm_71 mm_848) rfl rfl rfl (by decide +kernel) ⟨(Nat.le_of_ble_eq_true rfl), (Nat.le_of_ble_eq_true rfl)⟩) ⟨zx_blind, va_recv hK hPc (ci := 13) (q0 := 0) rfl rfl, zx_give hPc hK hDc hS hFc hZ hN⟩ rfl rfl hl.1 rfl (lv_room (Nat.le_of_ble_eq_true rfl)) dX8_revise_2 ⟨(Nat.le_of_ble_eq_true rfl), (Nat.le_of_ble_eq_true rfl)⟩) hS (fun q _ h => hFc q h) hFc (fun q _ h => hFc q h) (fun E9 ce9 q9 _ t H locs ht hvm _ hBX hz1 hk1 hS hce hcv hcl => ?_) (fun r9 u t H locs ht hvm hw hB hz1 hk1 hS => ?_)
  · exact vx_out (fun x9 h9 => absurd h9 (htb x9)) hlocks hce hcv hcl (zx_pass (P := (fun E9 => E9 = "java/lang/IndexOutOfBoundsException")) hS (hBX)) hS.2.2 (Nat.le_of_ble_eq_true rfl) (Nat.le_of_ble_eq_true rfl)
  · exact hw.elim
set_option maxHeartbeats 4000000 in
set_option maxRecDepth 100000 in
theorem c_X8_withdraw (l : Launch) (hst : l.stackTraces = false) (D : va_G) (cy : Nat → ClassId) (ed sz : Nat) (h : Nat) (pe : Nat) (ne : Nat) (pa : Nat) (ro : Nat) (dy : Int32) (mc : Int32) (el : Nat) (p0 : Int32) : vx_Met l yX8_withdraw wzX8_withdraw ({ frames := 8, cells := 1, slots := 6, locals := 123 }) (zx_Pc D cy ed sz [.ref h, .int p0] [(h, .inr (13, [.ref pe, .ref ne, .ref pa, .ref ro, .int dy])), (pa, .inr (4, [.int mc, .ref el, .int 0]))]) (va_Qi (fun (_ : Int32) (_ : Unit) => False) (fun (u9 : Unit) (t9 : State) => zx_At D cy (va_A [(h, .inr (13, [.ref pe, .ref ne, .ref pa, .ref ro, .int dy])), (pa, .inr (4, [.int mc, .ref el, .int 0]))] sz) [] t9) (va_A [(h, .inr (13, [.ref pe, .ref ne, .ref pa, .ref ro, .int dy])), (pa, .inr (4, [.int mc, .ref el, .int 0]))] sz)) (zx_X (fun E9 => E9 = "java/lang/IndexOutOfBoundsException") (va_A [(h, .inr (13, [.ref pe, .ref ne, .ref pa, .ref ro, .int dy])), (pa, .inr (4, [.int mc, .ref el, .int 0]))] sz)) 1 6 (va_A [(h, .inr (13, [.ref pe, .ref ne, .ref pa, .ref ro, .int dy])), (pa, .inr (4, [.int mc, .ref el, .int 0]))] sz) := by
  refine vx_ofW (cc := cX8_withdraw) (maxL := 4) (ret := (some .char)) (by decide) rfl ?_
  intro p e s m args below meth c s₁ B hml htb hv
  obtain ⟨rfl, hsz, hP, hK, hD0, hZ, hN⟩ := hv
  have hx := B.exec
  have hb := B.bytes
  have hr := B.returns
  have hts := atoms_spec (ws := wzX8_withdraw) B.pre
  have hown : s.vm.findClass RX8 = some m.cls := findClass_of_methodNamed B.named
  have hlocks := B.notSynchronized
  subst hsz
  have hD := hD0.self (sz := s.heap.size)
  generalize hAe : va_A [(h, .inr (13, [.ref pe, .ref ne, .ref pa, .ref ro, .int dy])), (pa, .inr (4, [.int mc, .ref el, .int 0]))] s.heap.size = A at hD hZ ⊢
  have hA : ∀ q : Nat, s.heap.size ≤ q → A q := fun q h => by rw [← hAe]; exact Or.inr h
  have hS : va_S A s.heap s.heap [] := va_S.rf
  have hP : va_P D vwCl [(h, .inr (13, [.ref pe, .ref ne, .ref pa, .ref ro, .int dy])), (pa, .inr (4, [.int mc, .ref el, .int 0]))] s.heap := hP
  have hl := lv_entry ([.ref h, .int p0]) (n := 4) (Nat.le_of_ble_eq_true rfl)
  rw [lg_entry_eq]
  generalize (lg_sl ([.ref h, .int p0]) ++ List.replicate (4 - (lg_sl ([.ref h, .int p0])).length) Slot.unset).toArray = ls at hl ⊢
  have hl : lv_has ls 4 [(0, .ref h), (1, .int p0)] := hl
  refine lv_aload_n hx hb dX8_withdraw_0 rfl (lv_at hl 0 rfl) ?_
  refine lv_iload_n hx hb dX8_withdraw_1 rfl (lv_at hl 1 rfl) ?_
  have hPc := hP.sub (ws' := [(h, .inr (13, [.ref pe, .ref ne, .ref pa, .ref ro, .int dy])), (pa, .inr (4, [.int mc, .ref el, .int 0]))]) [0, 1] rfl
  have hDc := hD.sub (ws' := [(h, .inr (13, [.ref pe, .ref ne, .ref pa, .ref ro, .int dy])), (pa, .inr (4, [.int mc, .ref el, .int 0]))]) [0, 1] (by decide) rfl
  have hFc := va_free (wc := [(h, .inr (13, [.ref pe, .ref ne, .ref pa, .ref ro, .int dy])), (pa, .inr (4, [.int mc, .ref el, .int 0]))]) hD hS hA [0, 1] rfl
  refine vx_callq (vx_runV (As := [.int p0]) (rest := []) ⟨hx, hb, hml, hown, hts⟩ (c_X8_paperAt l hst D cy ed s.heap.size h pe ne pa ro dy mc el p0) (cwV 1 hts (zx_GV mm_845 mm_847 mm_8 mm_71 mm_848) rfl rfl rfl (by decide +kernel) ⟨(Nat.le_of_ble_eq_true rfl), (Nat.le_of_ble_eq_true rfl)⟩) ⟨zx_blind, va_recv hK hPc (ci := 13) (q0 := 0) rfl rfl, zx_give hPc hK hDc hS hFc hZ hN⟩ rfl rfl hl.1 rfl (lv_room (Nat.le_of_ble_eq_true rfl)) dX8_withdraw_2 ⟨(Nat.le_of_ble_eq_true rfl), (Nat.le_of_ble_eq_true rfl)⟩) hS (fun q _ h => hFc q h) hFc (fun q _ h => hFc q h) (fun E9 ce9 q9 _ t H locs ht hvm _ hBX hz1 hk1 hS hce hcv hcl => ?_) (fun r9 u t H locs ht hvm hw hB hz1 hk1 hS => ?_)
  · exact vx_out (fun x9 h9 => absurd h9 (htb x9)) hlocks hce hcv hcl (zx_pass (P := (fun E9 => E9 = "java/lang/IndexOutOfBoundsException")) hS (hBX)) hS.2.2 (Nat.le_of_ble_eq_true rfl) (Nat.le_of_ble_eq_true rfl)
  · exact hw.elim
set_option maxHeartbeats 4000000 in
set_option maxRecDepth 100000 in
theorem c_X8_assign (l : Launch) (hst : l.stackTraces = false) (D : va_G) (cy : Nat → ClassId) (ed sz : Nat) (h : Nat) (pe : Nat) (ne : Nat) (pa : Nat) (ro : Nat) (dy : Int32) (mc : Int32) (el : Nat) (p0 : Int32) : vx_Met l yX8_assign wzX8_assign ({ frames := 8, cells := 1, slots := 6, locals := 123 }) (zx_Pc D cy ed sz [.ref h, .int p0] [(h, .inr (13, [.ref pe, .ref ne, .ref pa, .ref ro, .int dy])), (pa, .inr (4, [.int mc, .ref el, .int 0]))]) (va_Qi (fun (_ : Int32) (_ : Unit) => False) (fun (u9 : Unit) (t9 : State) => zx_At D cy (va_A [(h, .inr (13, [.ref pe, .ref ne, .ref pa, .ref ro, .int dy])), (pa, .inr (4, [.int mc, .ref el, .int 0]))] sz) [] t9) (va_A [(h, .inr (13, [.ref pe, .ref ne, .ref pa, .ref ro, .int dy])), (pa, .inr (4, [.int mc, .ref el, .int 0]))] sz)) (zx_X (fun E9 => E9 = "java/lang/IndexOutOfBoundsException") (va_A [(h, .inr (13, [.ref pe, .ref ne, .ref pa, .ref ro, .int dy])), (pa, .inr (4, [.int mc, .ref el, .int 0]))] sz)) 1 6 (va_A [(h, .inr (13, [.ref pe, .ref ne, .ref pa, .ref ro, .int dy])), (pa, .inr (4, [.int mc, .ref el, .int 0]))] sz) := by
  refine vx_ofW (cc := cX8_assign) (maxL := 4) (ret := (some .int)) (by decide) rfl ?_
  intro p e s m args below meth c s₁ B hml htb hv
  obtain ⟨rfl, hsz, hP, hK, hD0, hZ, hN⟩ := hv
  have hx := B.exec
  have hb := B.bytes
  have hr := B.returns
  have hts := atoms_spec (ws := wzX8_assign) B.pre
  have hown : s.vm.findClass RX8 = some m.cls := findClass_of_methodNamed B.named
  have hlocks := B.notSynchronized
  subst hsz
  have hD := hD0.self (sz := s.heap.size)
  generalize hAe : va_A [(h, .inr (13, [.ref pe, .ref ne, .ref pa, .ref ro, .int dy])), (pa, .inr (4, [.int mc, .ref el, .int 0]))] s.heap.size = A at hD hZ ⊢
  have hA : ∀ q : Nat, s.heap.size ≤ q → A q := fun q h => by rw [← hAe]; exact Or.inr h
  have hS : va_S A s.heap s.heap [] := va_S.rf
  have hP : va_P D vwCl [(h, .inr (13, [.ref pe, .ref ne, .ref pa, .ref ro, .int dy])), (pa, .inr (4, [.int mc, .ref el, .int 0]))] s.heap := hP
  have hl := lv_entry ([.ref h, .int p0]) (n := 4) (Nat.le_of_ble_eq_true rfl)
  rw [lg_entry_eq]
  generalize (lg_sl ([.ref h, .int p0]) ++ List.replicate (4 - (lg_sl ([.ref h, .int p0])).length) Slot.unset).toArray = ls at hl ⊢
  have hl : lv_has ls 4 [(0, .ref h), (1, .int p0)] := hl
  refine lv_aload_n hx hb dX8_assign_0 rfl (lv_at hl 0 rfl) ?_
  refine lv_iload_n hx hb dX8_assign_1 rfl (lv_at hl 1 rfl) ?_
  have hPc := hP.sub (ws' := [(h, .inr (13, [.ref pe, .ref ne, .ref pa, .ref ro, .int dy])), (pa, .inr (4, [.int mc, .ref el, .int 0]))]) [0, 1] rfl
  have hDc := hD.sub (ws' := [(h, .inr (13, [.ref pe, .ref ne, .ref pa, .ref ro, .int dy])), (pa, .inr (4, [.int mc, .ref el, .int 0]))]) [0, 1] (by decide) rfl
  have hFc := va_free (wc := [(h, .inr (13, [.ref pe, .ref ne, .ref pa, .ref ro, .int dy])), (pa, .inr (4, [.int mc, .ref el, .int 0]))]) hD hS hA [0, 1] rfl
  refine vx_callq (vx_runV (As := [.int p0]) (rest := []) ⟨hx, hb, hml, hown, hts⟩ (c_X8_paperAt l hst D cy ed s.heap.size h pe ne pa ro dy mc el p0) (cwV 1 hts (zx_GV mm_845 mm_847 mm_8 mm_71 mm_848) rfl rfl rfl (by decide +kernel) ⟨(Nat.le_of_ble_eq_true rfl), (Nat.le_of_ble_eq_true rfl)⟩) ⟨zx_blind, va_recv hK hPc (ci := 13) (q0 := 0) rfl rfl, zx_give hPc hK hDc hS hFc hZ hN⟩ rfl rfl hl.1 rfl (lv_room (Nat.le_of_ble_eq_true rfl)) dX8_assign_2 ⟨(Nat.le_of_ble_eq_true rfl), (Nat.le_of_ble_eq_true rfl)⟩) hS (fun q _ h => hFc q h) hFc (fun q _ h => hFc q h) (fun E9 ce9 q9 _ t H locs ht hvm _ hBX hz1 hk1 hS hce hcv hcl => ?_) (fun r9 u t H locs ht hvm hw hB hz1 hk1 hS => ?_)
  · exact vx_out (fun x9 h9 => absurd h9 (htb x9)) hlocks hce hcv hcl (zx_pass (P := (fun E9 => E9 = "java/lang/IndexOutOfBoundsException")) hS (hBX)) hS.2.2 (Nat.le_of_ble_eq_true rfl) (Nat.le_of_ble_eq_true rfl)
  · exact hw.elim
set_option maxHeartbeats 4000000 in
set_option maxRecDepth 100000 in
theorem c_X8_editorOf (l : Launch) (hst : l.stackTraces = false) (D : va_G) (cy : Nat → ClassId) (ed sz : Nat) (h : Nat) (pe : Nat) (ne : Nat) (pa : Nat) (ro : Nat) (dy : Int32) (mc : Int32) (el : Nat) (p0 : Int32) : vx_Met l yX8_editorOf wzX8_editorOf ({ frames := 8, cells := 1, slots := 6, locals := 123 }) (zx_Pc D cy ed sz [.ref h, .int p0] [(h, .inr (13, [.ref pe, .ref ne, .ref pa, .ref ro, .int dy])), (pa, .inr (4, [.int mc, .ref el, .int 0]))]) (va_Qi (fun (_ : Int32) (_ : Unit) => False) (fun (u9 : Unit) (t9 : State) => zx_At D cy (va_A [(h, .inr (13, [.ref pe, .ref ne, .ref pa, .ref ro, .int dy])), (pa, .inr (4, [.int mc, .ref el, .int 0]))] sz) [] t9) (va_A [(h, .inr (13, [.ref pe, .ref ne, .ref pa, .ref ro, .int dy])), (pa, .inr (4, [.int mc, .ref el, .int 0]))] sz)) (zx_X (fun E9 => E9 = "java/lang/IndexOutOfBoundsException") (va_A [(h, .inr (13, [.ref pe, .ref ne, .ref pa, .ref ro, .int dy])), (pa, .inr (4, [.int mc, .ref el, .int 0]))] sz)) 1 6 (va_A [(h, .inr (13, [.ref pe, .ref ne, .ref pa, .ref ro, .int dy])), (pa, .inr (4, [.int mc, .ref el, .int 0]))] sz) := by
  refine vx_ofW (cc := cX8_editorOf) (maxL := 3) (ret := (some .int)) (by decide) rfl ?_
  intro p e s m args below meth c s₁ B hml htb hv
  obtain ⟨rfl, hsz, hP, hK, hD0, hZ, hN⟩ := hv
  have hx := B.exec
  have hb := B.bytes
  have hr := B.returns
  have hts := atoms_spec (ws := wzX8_editorOf) B.pre
  have hown : s.vm.findClass RX8 = some m.cls := findClass_of_methodNamed B.named
  have hlocks := B.notSynchronized
  subst hsz
  have hD := hD0.self (sz := s.heap.size)
  generalize hAe : va_A [(h, .inr (13, [.ref pe, .ref ne, .ref pa, .ref ro, .int dy])), (pa, .inr (4, [.int mc, .ref el, .int 0]))] s.heap.size = A at hD hZ ⊢
  have hA : ∀ q : Nat, s.heap.size ≤ q → A q := fun q h => by rw [← hAe]; exact Or.inr h
  have hS : va_S A s.heap s.heap [] := va_S.rf
  have hP : va_P D vwCl [(h, .inr (13, [.ref pe, .ref ne, .ref pa, .ref ro, .int dy])), (pa, .inr (4, [.int mc, .ref el, .int 0]))] s.heap := hP
  have hl := lv_entry ([.ref h, .int p0]) (n := 3) (Nat.le_of_ble_eq_true rfl)
  rw [lg_entry_eq]
  generalize (lg_sl ([.ref h, .int p0]) ++ List.replicate (3 - (lg_sl ([.ref h, .int p0])).length) Slot.unset).toArray = ls at hl ⊢
  have hl : lv_has ls 3 [(0, .ref h), (1, .int p0)] := hl
  refine lv_aload_n hx hb dX8_editorOf_0 rfl (lv_at hl 0 rfl) ?_
  refine lv_iload_n hx hb dX8_editorOf_1 rfl (lv_at hl 1 rfl) ?_
  have hPc := hP.sub (ws' := [(h, .inr (13, [.ref pe, .ref ne, .ref pa, .ref ro, .int dy])), (pa, .inr (4, [.int mc, .ref el, .int 0]))]) [0, 1] rfl
  have hDc := hD.sub (ws' := [(h, .inr (13, [.ref pe, .ref ne, .ref pa, .ref ro, .int dy])), (pa, .inr (4, [.int mc, .ref el, .int 0]))]) [0, 1] (by decide) rfl
  have hFc := va_free (wc := [(h, .inr (13, [.ref pe, .ref ne, .ref pa, .ref ro, .int dy])), (pa, .inr (4, [.int mc, .ref el, .int 0]))]) hD hS hA [0, 1] rfl
  refine vx_callq (vx_runV (As := [.int p0]) (rest := []) ⟨hx, hb, hml, hown, hts⟩ (c_X8_paperAt l hst D cy ed s.heap.size h pe ne pa ro dy mc el p0) (cwV 1 hts (zx_GV mm_845 mm_847 mm_8 mm_71 mm_848) rfl rfl rfl (by decide +kernel) ⟨(Nat.le_of_ble_eq_true rfl), (Nat.le_of_ble_eq_true rfl)⟩) ⟨zx_blind, va_recv hK hPc (ci := 13) (q0 := 0) rfl rfl, zx_give hPc hK hDc hS hFc hZ hN⟩ rfl rfl hl.1 rfl (lv_room (Nat.le_of_ble_eq_true rfl)) dX8_editorOf_2 ⟨(Nat.le_of_ble_eq_true rfl), (Nat.le_of_ble_eq_true rfl)⟩) hS (fun q _ h => hFc q h) hFc (fun q _ h => hFc q h) (fun E9 ce9 q9 _ t H locs ht hvm _ hBX hz1 hk1 hS hce hcv hcl => ?_) (fun r9 u t H locs ht hvm hw hB hz1 hk1 hS => ?_)
  · exact vx_out (fun x9 h9 => absurd h9 (htb x9)) hlocks hce hcv hcl (zx_pass (P := (fun E9 => E9 = "java/lang/IndexOutOfBoundsException")) hS (hBX)) hS.2.2 (Nat.le_of_ble_eq_true rfl) (Nat.le_of_ble_eq_true rfl)
  · exact hw.elim
set_option maxHeartbeats 4000000 in
set_option maxRecDepth 100000 in
theorem c_X8_invite (l : Launch) (hst : l.stackTraces = false) (D : va_G) (cy : Nat → ClassId) (ed sz : Nat) (h : Nat) (pe : Nat) (ne : Nat) (pa : Nat) (ro : Nat) (dy : Int32) (mc : Int32) (el : Nat) (p0 : Int32) (p1 : Int32) : vx_Met l yX8_invite wzX8_invite ({ frames := 8, cells := 1, slots := 6, locals := 123 }) (zx_Pc D cy ed sz [.ref h, .int p0, .int p1] [(h, .inr (13, [.ref pe, .ref ne, .ref pa, .ref ro, .int dy])), (pa, .inr (4, [.int mc, .ref el, .int 0]))]) (va_Qi (fun (_ : Int32) (_ : Unit) => False) (fun (u9 : Unit) (t9 : State) => zx_At D cy (va_A [(h, .inr (13, [.ref pe, .ref ne, .ref pa, .ref ro, .int dy])), (pa, .inr (4, [.int mc, .ref el, .int 0]))] sz) [] t9) (va_A [(h, .inr (13, [.ref pe, .ref ne, .ref pa, .ref ro, .int dy])), (pa, .inr (4, [.int mc, .ref el, .int 0]))] sz)) (zx_X (fun E9 => E9 = "java/lang/IndexOutOfBoundsException") (va_A [(h, .inr (13, [.ref pe, .ref ne, .ref pa, .ref ro, .int dy])), (pa, .inr (4, [.int mc, .ref el, .int 0]))] sz)) 1 6 (va_A [(h, .inr (13, [.ref pe, .ref ne, .ref pa, .ref ro, .int dy])), (pa, .inr (4, [.int mc, .ref el, .int 0]))] sz) := by
  refine vx_ofW (cc := cX8_invite) (maxL := 7) (ret := (some .int)) (by decide) rfl ?_
  intro p e s m args below meth c s₁ B hml htb hv
  obtain ⟨rfl, hsz, hP, hK, hD0, hZ, hN⟩ := hv
  have hx := B.exec
  have hb := B.bytes
  have hr := B.returns
  have hts := atoms_spec (ws := wzX8_invite) B.pre
  have hown : s.vm.findClass RX8 = some m.cls := findClass_of_methodNamed B.named
  have hlocks := B.notSynchronized
  subst hsz
  have hD := hD0.self (sz := s.heap.size)
  generalize hAe : va_A [(h, .inr (13, [.ref pe, .ref ne, .ref pa, .ref ro, .int dy])), (pa, .inr (4, [.int mc, .ref el, .int 0]))] s.heap.size = A at hD hZ ⊢
  have hA : ∀ q : Nat, s.heap.size ≤ q → A q := fun q h => by rw [← hAe]; exact Or.inr h
  have hS : va_S A s.heap s.heap [] := va_S.rf
  have hP : va_P D vwCl [(h, .inr (13, [.ref pe, .ref ne, .ref pa, .ref ro, .int dy])), (pa, .inr (4, [.int mc, .ref el, .int 0]))] s.heap := hP
  have hl := lv_entry ([.ref h, .int p0, .int p1]) (n := 7) (Nat.le_of_ble_eq_true rfl)
  rw [lg_entry_eq]
  generalize (lg_sl ([.ref h, .int p0, .int p1]) ++ List.replicate (7 - (lg_sl ([.ref h, .int p0, .int p1])).length) Slot.unset).toArray = ls at hl ⊢
  have hl : lv_has ls 7 [(0, .ref h), (1, .int p0), (2, .int p1)] := hl
  refine lv_aload_n hx hb dX8_invite_0 rfl (lv_at hl 0 rfl) ?_
  refine lv_iload_n hx hb dX8_invite_1 rfl (lv_at hl 1 rfl) ?_
  have hPc := hP.sub (ws' := [(h, .inr (13, [.ref pe, .ref ne, .ref pa, .ref ro, .int dy])), (pa, .inr (4, [.int mc, .ref el, .int 0]))]) [0, 1] rfl
  have hDc := hD.sub (ws' := [(h, .inr (13, [.ref pe, .ref ne, .ref pa, .ref ro, .int dy])), (pa, .inr (4, [.int mc, .ref el, .int 0]))]) [0, 1] (by decide) rfl
  have hFc := va_free (wc := [(h, .inr (13, [.ref pe, .ref ne, .ref pa, .ref ro, .int dy])), (pa, .inr (4, [.int mc, .ref el, .int 0]))]) hD hS hA [0, 1] rfl
  refine vx_callq (vx_runV (As := [.int p0]) (rest := []) ⟨hx, hb, hml, hown, hts⟩ (c_X8_paperAt l hst D cy ed s.heap.size h pe ne pa ro dy mc el p0) (cwV 1 hts (zx_GV mm_845 mm_847 mm_8 mm_71 mm_848) rfl rfl rfl (by decide +kernel) ⟨(Nat.le_of_ble_eq_true rfl), (Nat.le_of_ble_eq_true rfl)⟩) ⟨zx_blind, va_recv hK hPc (ci := 13) (q0 := 0) rfl rfl, zx_give hPc hK hDc hS hFc hZ hN⟩ rfl rfl hl.1 rfl (lv_room (Nat.le_of_ble_eq_true rfl)) dX8_invite_2 ⟨(Nat.le_of_ble_eq_true rfl), (Nat.le_of_ble_eq_true rfl)⟩) hS (fun q _ h => hFc q h) hFc (fun q _ h => hFc q h) (fun E9 ce9 q9 _ t H locs ht hvm _ hBX hz1 hk1 hS hce hcv hcl => ?_) (fun r9 u t H locs ht hvm hw hB hz1 hk1 hS => ?_)
  · exact vx_out (fun x9 h9 => absurd h9 (htb x9)) hlocks hce hcv hcl (zx_pass (P := (fun E9 => E9 = "java/lang/IndexOutOfBoundsException")) hS (hBX)) hS.2.2 (Nat.le_of_ble_eq_true rfl) (Nat.le_of_ble_eq_true rfl)
  · exact hw.elim
set_option maxHeartbeats 4000000 in
set_option maxRecDepth 100000 in
theorem c_X8_invitation (l : Launch) (hst : l.stackTraces = false) (D : va_G) (cy : Nat → ClassId) (ed sz : Nat) (h : Nat) (pe : Nat) (ne : Nat) (pa : Nat) (ro : Nat) (dy : Int32) (mc : Int32) (el : Nat) (p0 : Int32) (p1 : Int32) : vx_Met l yX8_invitation wzX8_invitation ({ frames := 8, cells := 1, slots := 6, locals := 123 }) (zx_Pc D cy ed sz [.ref h, .int p0, .int p1] [(h, .inr (13, [.ref pe, .ref ne, .ref pa, .ref ro, .int dy])), (pa, .inr (4, [.int mc, .ref el, .int 0]))]) (va_Qi (fun (_ : Int32) (_ : Unit) => False) (fun (u9 : Unit) (t9 : State) => zx_At D cy (va_A [(h, .inr (13, [.ref pe, .ref ne, .ref pa, .ref ro, .int dy])), (pa, .inr (4, [.int mc, .ref el, .int 0]))] sz) [] t9) (va_A [(h, .inr (13, [.ref pe, .ref ne, .ref pa, .ref ro, .int dy])), (pa, .inr (4, [.int mc, .ref el, .int 0]))] sz)) (zx_X (fun E9 => E9 = "java/lang/IndexOutOfBoundsException") (va_A [(h, .inr (13, [.ref pe, .ref ne, .ref pa, .ref ro, .int dy])), (pa, .inr (4, [.int mc, .ref el, .int 0]))] sz)) 1 6 (va_A [(h, .inr (13, [.ref pe, .ref ne, .ref pa, .ref ro, .int dy])), (pa, .inr (4, [.int mc, .ref el, .int 0]))] sz) := by
  refine vx_ofW (cc := cX8_invitation) (maxL := 4) (ret := (some .char)) (by decide) rfl ?_
  intro p e s m args below meth c s₁ B hml htb hv
  obtain ⟨rfl, hsz, hP, hK, hD0, hZ, hN⟩ := hv
  have hx := B.exec
  have hb := B.bytes
  have hr := B.returns
  have hts := atoms_spec (ws := wzX8_invitation) B.pre
  have hown : s.vm.findClass RX8 = some m.cls := findClass_of_methodNamed B.named
  have hlocks := B.notSynchronized
  subst hsz
  have hD := hD0.self (sz := s.heap.size)
  generalize hAe : va_A [(h, .inr (13, [.ref pe, .ref ne, .ref pa, .ref ro, .int dy])), (pa, .inr (4, [.int mc, .ref el, .int 0]))] s.heap.size = A at hD hZ ⊢
  have hA : ∀ q : Nat, s.heap.size ≤ q → A q := fun q h => by rw [← hAe]; exact Or.inr h
  have hS : va_S A s.heap s.heap [] := va_S.rf
  have hP : va_P D vwCl [(h, .inr (13, [.ref pe, .ref ne, .ref pa, .ref ro, .int dy])), (pa, .inr (4, [.int mc, .ref el, .int 0]))] s.heap := hP
  have hl := lv_entry ([.ref h, .int p0, .int p1]) (n := 4) (Nat.le_of_ble_eq_true rfl)
  rw [lg_entry_eq]
  generalize (lg_sl ([.ref h, .int p0, .int p1]) ++ List.replicate (4 - (lg_sl ([.ref h, .int p0, .int p1])).length) Slot.unset).toArray = ls at hl ⊢
  have hl : lv_has ls 4 [(0, .ref h), (1, .int p0), (2, .int p1)] := hl
  refine lv_aload_n hx hb dX8_invitation_0 rfl (lv_at hl 0 rfl) ?_
  refine lv_iload_n hx hb dX8_invitation_1 rfl (lv_at hl 1 rfl) ?_
  have hPc := hP.sub (ws' := [(h, .inr (13, [.ref pe, .ref ne, .ref pa, .ref ro, .int dy])), (pa, .inr (4, [.int mc, .ref el, .int 0]))]) [0, 1] rfl
  have hDc := hD.sub (ws' := [(h, .inr (13, [.ref pe, .ref ne, .ref pa, .ref ro, .int dy])), (pa, .inr (4, [.int mc, .ref el, .int 0]))]) [0, 1] (by decide) rfl
  have hFc := va_free (wc := [(h, .inr (13, [.ref pe, .ref ne, .ref pa, .ref ro, .int dy])), (pa, .inr (4, [.int mc, .ref el, .int 0]))]) hD hS hA [0, 1] rfl
  refine vx_callq (vx_runV (As := [.int p0]) (rest := []) ⟨hx, hb, hml, hown, hts⟩ (c_X8_paperAt l hst D cy ed s.heap.size h pe ne pa ro dy mc el p0) (cwV 1 hts (zx_GV mm_845 mm_847 mm_8 mm_71 mm_848) rfl rfl rfl (by decide +kernel) ⟨(Nat.le_of_ble_eq_true rfl), (Nat.le_of_ble_eq_true rfl)⟩) ⟨zx_blind, va_recv hK hPc (ci := 13) (q0 := 0) rfl rfl, zx_give hPc hK hDc hS hFc hZ hN⟩ rfl rfl hl.1 rfl (lv_room (Nat.le_of_ble_eq_true rfl)) dX8_invitation_2 ⟨(Nat.le_of_ble_eq_true rfl), (Nat.le_of_ble_eq_true rfl)⟩) hS (fun q _ h => hFc q h) hFc (fun q _ h => hFc q h) (fun E9 ce9 q9 _ t H locs ht hvm _ hBX hz1 hk1 hS hce hcv hcl => ?_) (fun r9 u t H locs ht hvm hw hB hz1 hk1 hS => ?_)
  · exact vx_out (fun x9 h9 => absurd h9 (htb x9)) hlocks hce hcv hcl (zx_pass (P := (fun E9 => E9 = "java/lang/IndexOutOfBoundsException")) hS (hBX)) hS.2.2 (Nat.le_of_ble_eq_true rfl) (Nat.le_of_ble_eq_true rfl)
  · exact hw.elim
set_option maxHeartbeats 4000000 in
set_option maxRecDepth 100000 in
theorem c_X8_answer (l : Launch) (hst : l.stackTraces = false) (D : va_G) (cy : Nat → ClassId) (ed sz : Nat) (h : Nat) (pe : Nat) (ne : Nat) (pa : Nat) (ro : Nat) (dy : Int32) (mc : Int32) (el : Nat) (p0 : Int32) (p1 : Int32) (p2 : Int32) : vx_Met l yX8_answer wzX8_answer ({ frames := 8, cells := 1, slots := 6, locals := 123 }) (zx_Pc D cy ed sz [.ref h, .int p0, .int p1, .int p2] [(h, .inr (13, [.ref pe, .ref ne, .ref pa, .ref ro, .int dy])), (pa, .inr (4, [.int mc, .ref el, .int 0]))]) (va_Qi (fun (_ : Int32) (_ : Unit) => False) (fun (u9 : Unit) (t9 : State) => zx_At D cy (va_A [(h, .inr (13, [.ref pe, .ref ne, .ref pa, .ref ro, .int dy])), (pa, .inr (4, [.int mc, .ref el, .int 0]))] sz) [] t9) (va_A [(h, .inr (13, [.ref pe, .ref ne, .ref pa, .ref ro, .int dy])), (pa, .inr (4, [.int mc, .ref el, .int 0]))] sz)) (zx_X (fun E9 => E9 = "java/lang/IndexOutOfBoundsException") (va_A [(h, .inr (13, [.ref pe, .ref ne, .ref pa, .ref ro, .int dy])), (pa, .inr (4, [.int mc, .ref el, .int 0]))] sz)) 1 6 (va_A [(h, .inr (13, [.ref pe, .ref ne, .ref pa, .ref ro, .int dy])), (pa, .inr (4, [.int mc, .ref el, .int 0]))] sz) := by
  refine vx_ofW (cc := cX8_answer) (maxL := 6) (ret := (some .int)) (by decide) rfl ?_
  intro p e s m args below meth c s₁ B hml htb hv
  obtain ⟨rfl, hsz, hP, hK, hD0, hZ, hN⟩ := hv
  have hx := B.exec
  have hb := B.bytes
  have hr := B.returns
  have hts := atoms_spec (ws := wzX8_answer) B.pre
  have hown : s.vm.findClass RX8 = some m.cls := findClass_of_methodNamed B.named
  have hlocks := B.notSynchronized
  subst hsz
  have hD := hD0.self (sz := s.heap.size)
  generalize hAe : va_A [(h, .inr (13, [.ref pe, .ref ne, .ref pa, .ref ro, .int dy])), (pa, .inr (4, [.int mc, .ref el, .int 0]))] s.heap.size = A at hD hZ ⊢
  have hA : ∀ q : Nat, s.heap.size ≤ q → A q := fun q h => by rw [← hAe]; exact Or.inr h
  have hS : va_S A s.heap s.heap [] := va_S.rf
  have hP : va_P D vwCl [(h, .inr (13, [.ref pe, .ref ne, .ref pa, .ref ro, .int dy])), (pa, .inr (4, [.int mc, .ref el, .int 0]))] s.heap := hP
  have hl := lv_entry ([.ref h, .int p0, .int p1, .int p2]) (n := 6) (Nat.le_of_ble_eq_true rfl)
  rw [lg_entry_eq]
  generalize (lg_sl ([.ref h, .int p0, .int p1, .int p2]) ++ List.replicate (6 - (lg_sl ([.ref h, .int p0, .int p1, .int p2])).length) Slot.unset).toArray = ls at hl ⊢
  have hl : lv_has ls 6 [(0, .ref h), (1, .int p0), (2, .int p1), (3, .int p2)] := hl
  refine lv_aload_n hx hb dX8_answer_0 rfl (lv_at hl 0 rfl) ?_
  refine lv_iload_n hx hb dX8_answer_1 rfl (lv_at hl 1 rfl) ?_
  have hPc := hP.sub (ws' := [(h, .inr (13, [.ref pe, .ref ne, .ref pa, .ref ro, .int dy])), (pa, .inr (4, [.int mc, .ref el, .int 0]))]) [0, 1] rfl
  have hDc := hD.sub (ws' := [(h, .inr (13, [.ref pe, .ref ne, .ref pa, .ref ro, .int dy])), (pa, .inr (4, [.int mc, .ref el, .int 0]))]) [0, 1] (by decide) rfl
  have hFc := va_free (wc := [(h, .inr (13, [.ref pe, .ref ne, .ref pa, .ref ro, .int dy])), (pa, .inr (4, [.int mc, .ref el, .int 0]))]) hD hS hA [0, 1] rfl
  refine vx_callq (vx_runV (As := [.int p0]) (rest := []) ⟨hx, hb, hml, hown, hts⟩ (c_X8_paperAt l hst D cy ed s.heap.size h pe ne pa ro dy mc el p0) (cwV 1 hts (zx_GV mm_845 mm_847 mm_8 mm_71 mm_848) rfl rfl rfl (by decide +kernel) ⟨(Nat.le_of_ble_eq_true rfl), (Nat.le_of_ble_eq_true rfl)⟩) ⟨zx_blind, va_recv hK hPc (ci := 13) (q0 := 0) rfl rfl, zx_give hPc hK hDc hS hFc hZ hN⟩ rfl rfl hl.1 rfl (lv_room (Nat.le_of_ble_eq_true rfl)) dX8_answer_2 ⟨(Nat.le_of_ble_eq_true rfl), (Nat.le_of_ble_eq_true rfl)⟩) hS (fun q _ h => hFc q h) hFc (fun q _ h => hFc q h) (fun E9 ce9 q9 _ t H locs ht hvm _ hBX hz1 hk1 hS hce hcv hcl => ?_) (fun r9 u t H locs ht hvm hw hB hz1 hk1 hS => ?_)
  · exact vx_out (fun x9 h9 => absurd h9 (htb x9)) hlocks hce hcv hcl (zx_pass (P := (fun E9 => E9 = "java/lang/IndexOutOfBoundsException")) hS (hBX)) hS.2.2 (Nat.le_of_ble_eq_true rfl) (Nat.le_of_ble_eq_true rfl)
  · exact hw.elim
set_option maxHeartbeats 4000000 in
set_option maxRecDepth 100000 in
theorem c_X8_report (l : Launch) (hst : l.stackTraces = false) (D : va_G) (cy : Nat → ClassId) (ed sz : Nat) (h : Nat) (pe : Nat) (ne : Nat) (pa : Nat) (ro : Nat) (dy : Int32) (mc : Int32) (el : Nat) (p0 : Int32) (p1 : Int32) (p2 : Int32) (p3 : Int32) (p4 : Int32) : vx_Met l yX8_report wzX8_report ({ frames := 8, cells := 1, slots := 6, locals := 123 }) (zx_Pc D cy ed sz [.ref h, .int p0, .int p1, .int p2, .int p3, .int p4] [(h, .inr (13, [.ref pe, .ref ne, .ref pa, .ref ro, .int dy])), (pa, .inr (4, [.int mc, .ref el, .int 0]))]) (va_Qi (fun (_ : Int32) (_ : Unit) => False) (fun (u9 : Unit) (t9 : State) => zx_At D cy (va_A [(h, .inr (13, [.ref pe, .ref ne, .ref pa, .ref ro, .int dy])), (pa, .inr (4, [.int mc, .ref el, .int 0]))] sz) [] t9) (va_A [(h, .inr (13, [.ref pe, .ref ne, .ref pa, .ref ro, .int dy])), (pa, .inr (4, [.int mc, .ref el, .int 0]))] sz)) (zx_X (fun E9 => E9 = "java/lang/IndexOutOfBoundsException") (va_A [(h, .inr (13, [.ref pe, .ref ne, .ref pa, .ref ro, .int dy])), (pa, .inr (4, [.int mc, .ref el, .int 0]))] sz)) 1 6 (va_A [(h, .inr (13, [.ref pe, .ref ne, .ref pa, .ref ro, .int dy])), (pa, .inr (4, [.int mc, .ref el, .int 0]))] sz) := by
  refine vx_ofW (cc := cX8_report) (maxL := 7) (ret := (some .int)) (by decide) rfl ?_
  intro p e s m args below meth c s₁ B hml htb hv
  obtain ⟨rfl, hsz, hP, hK, hD0, hZ, hN⟩ := hv
  have hx := B.exec
  have hb := B.bytes
  have hr := B.returns
  have hts := atoms_spec (ws := wzX8_report) B.pre
  have hown : s.vm.findClass RX8 = some m.cls := findClass_of_methodNamed B.named
  have hlocks := B.notSynchronized
  subst hsz
  have hD := hD0.self (sz := s.heap.size)
  generalize hAe : va_A [(h, .inr (13, [.ref pe, .ref ne, .ref pa, .ref ro, .int dy])), (pa, .inr (4, [.int mc, .ref el, .int 0]))] s.heap.size = A at hD hZ ⊢
  have hA : ∀ q : Nat, s.heap.size ≤ q → A q := fun q h => by rw [← hAe]; exact Or.inr h
  have hS : va_S A s.heap s.heap [] := va_S.rf
  have hP : va_P D vwCl [(h, .inr (13, [.ref pe, .ref ne, .ref pa, .ref ro, .int dy])), (pa, .inr (4, [.int mc, .ref el, .int 0]))] s.heap := hP
  have hl := lv_entry ([.ref h, .int p0, .int p1, .int p2, .int p3, .int p4]) (n := 7) (Nat.le_of_ble_eq_true rfl)
  rw [lg_entry_eq]
  generalize (lg_sl ([.ref h, .int p0, .int p1, .int p2, .int p3, .int p4]) ++ List.replicate (7 - (lg_sl ([.ref h, .int p0, .int p1, .int p2, .int p3, .int p4])).length) Slot.unset).toArray = ls at hl ⊢
  have hl : lv_has ls 7 [(0, .ref h), (1, .int p0), (2, .int p1), (3, .int p2), (4, .int p3), (5, .int p4)] := hl
  refine lv_aload_n hx hb dX8_report_0 rfl (lv_at hl 0 rfl) ?_
  refine lv_iload_n hx hb dX8_report_1 rfl (lv_at hl 1 rfl) ?_
  have hPc := hP.sub (ws' := [(h, .inr (13, [.ref pe, .ref ne, .ref pa, .ref ro, .int dy])), (pa, .inr (4, [.int mc, .ref el, .int 0]))]) [0, 1] rfl
  have hDc := hD.sub (ws' := [(h, .inr (13, [.ref pe, .ref ne, .ref pa, .ref ro, .int dy])), (pa, .inr (4, [.int mc, .ref el, .int 0]))]) [0, 1] (by decide) rfl
  have hFc := va_free (wc := [(h, .inr (13, [.ref pe, .ref ne, .ref pa, .ref ro, .int dy])), (pa, .inr (4, [.int mc, .ref el, .int 0]))]) hD hS hA [0, 1] rfl
  refine vx_callq (vx_runV (As := [.int p0]) (rest := []) ⟨hx, hb, hml, hown, hts⟩ (c_X8_paperAt l hst D cy ed s.heap.size h pe ne pa ro dy mc el p0) (cwV 1 hts (zx_GV mm_845 mm_847 mm_8 mm_71 mm_848) rfl rfl rfl (by decide +kernel) ⟨(Nat.le_of_ble_eq_true rfl), (Nat.le_of_ble_eq_true rfl)⟩) ⟨zx_blind, va_recv hK hPc (ci := 13) (q0 := 0) rfl rfl, zx_give hPc hK hDc hS hFc hZ hN⟩ rfl rfl hl.1 rfl (lv_room (Nat.le_of_ble_eq_true rfl)) dX8_report_2 ⟨(Nat.le_of_ble_eq_true rfl), (Nat.le_of_ble_eq_true rfl)⟩) hS (fun q _ h => hFc q h) hFc (fun q _ h => hFc q h) (fun E9 ce9 q9 _ t H locs ht hvm _ hBX hz1 hk1 hS hce hcv hcl => ?_) (fun r9 u t H locs ht hvm hw hB hz1 hk1 hS => ?_)
  · exact vx_out (fun x9 h9 => absurd h9 (htb x9)) hlocks hce hcv hcl (zx_pass (P := (fun E9 => E9 = "java/lang/IndexOutOfBoundsException")) hS (hBX)) hS.2.2 (Nat.le_of_ble_eq_true rfl) (Nat.le_of_ble_eq_true rfl)
  · exact hw.elim
set_option maxHeartbeats 4000000 in
set_option maxRecDepth 100000 in
theorem c_X8_evened (l : Launch) (hst : l.stackTraces = false) (D : va_G) (cy : Nat → ClassId) (ed sz : Nat) (h : Nat) (pe : Nat) (ne : Nat) (pa : Nat) (ro : Nat) (dy : Int32) (mc : Int32) (el : Nat) (p0 : Int32) (p1 : Int32) : vx_Met l yX8_evened wzX8_evened ({ frames := 8, cells := 1, slots := 6, locals := 123 }) (zx_Pc D cy ed sz [.ref h, .int p0, .int p1] [(h, .inr (13, [.ref pe, .ref ne, .ref pa, .ref ro, .int dy])), (pa, .inr (4, [.int mc, .ref el, .int 0]))]) (va_Qi (fun (_ : Int32) (_ : Unit) => False) (fun (u9 : Unit) (t9 : State) => zx_At D cy (va_A [(h, .inr (13, [.ref pe, .ref ne, .ref pa, .ref ro, .int dy])), (pa, .inr (4, [.int mc, .ref el, .int 0]))] sz) [] t9) (va_A [(h, .inr (13, [.ref pe, .ref ne, .ref pa, .ref ro, .int dy])), (pa, .inr (4, [.int mc, .ref el, .int 0]))] sz)) (zx_X (fun E9 => E9 = "java/lang/IndexOutOfBoundsException") (va_A [(h, .inr (13, [.ref pe, .ref ne, .ref pa, .ref ro, .int dy])), (pa, .inr (4, [.int mc, .ref el, .int 0]))] sz)) 1 6 (va_A [(h, .inr (13, [.ref pe, .ref ne, .ref pa, .ref ro, .int dy])), (pa, .inr (4, [.int mc, .ref el, .int 0]))] sz) := by
  refine vx_ofW (cc := cX8_evened) (maxL := 5) (ret := (some .int)) (by decide) rfl ?_
  intro p e s m args below meth c s₁ B hml htb hv
  obtain ⟨rfl, hsz, hP, hK, hD0, hZ, hN⟩ := hv
  have hx := B.exec
  have hb := B.bytes
  have hr := B.returns
  have hts := atoms_spec (ws := wzX8_evened) B.pre
  have hown : s.vm.findClass RX8 = some m.cls := findClass_of_methodNamed B.named
  have hlocks := B.notSynchronized
  subst hsz
  have hD := hD0.self (sz := s.heap.size)
  generalize hAe : va_A [(h, .inr (13, [.ref pe, .ref ne, .ref pa, .ref ro, .int dy])), (pa, .inr (4, [.int mc, .ref el, .int 0]))] s.heap.size = A at hD hZ ⊢
  have hA : ∀ q : Nat, s.heap.size ≤ q → A q := fun q h => by rw [← hAe]; exact Or.inr h
  have hS : va_S A s.heap s.heap [] := va_S.rf
  have hP : va_P D vwCl [(h, .inr (13, [.ref pe, .ref ne, .ref pa, .ref ro, .int dy])), (pa, .inr (4, [.int mc, .ref el, .int 0]))] s.heap := hP
  have hl := lv_entry ([.ref h, .int p0, .int p1]) (n := 5) (Nat.le_of_ble_eq_true rfl)
  rw [lg_entry_eq]
  generalize (lg_sl ([.ref h, .int p0, .int p1]) ++ List.replicate (5 - (lg_sl ([.ref h, .int p0, .int p1])).length) Slot.unset).toArray = ls at hl ⊢
  have hl : lv_has ls 5 [(0, .ref h), (1, .int p0), (2, .int p1)] := hl
  refine lv_aload_n hx hb dX8_evened_0 rfl (lv_at hl 0 rfl) ?_
  refine lv_iload_n hx hb dX8_evened_1 rfl (lv_at hl 1 rfl) ?_
  have hPc := hP.sub (ws' := [(h, .inr (13, [.ref pe, .ref ne, .ref pa, .ref ro, .int dy])), (pa, .inr (4, [.int mc, .ref el, .int 0]))]) [0, 1] rfl
  have hDc := hD.sub (ws' := [(h, .inr (13, [.ref pe, .ref ne, .ref pa, .ref ro, .int dy])), (pa, .inr (4, [.int mc, .ref el, .int 0]))]) [0, 1] (by decide) rfl
  have hFc := va_free (wc := [(h, .inr (13, [.ref pe, .ref ne, .ref pa, .ref ro, .int dy])), (pa, .inr (4, [.int mc, .ref el, .int 0]))]) hD hS hA [0, 1] rfl
  refine vx_callq (vx_runV (As := [.int p0]) (rest := []) ⟨hx, hb, hml, hown, hts⟩ (c_X8_paperAt l hst D cy ed s.heap.size h pe ne pa ro dy mc el p0) (cwV 1 hts (zx_GV mm_845 mm_847 mm_8 mm_71 mm_848) rfl rfl rfl (by decide +kernel) ⟨(Nat.le_of_ble_eq_true rfl), (Nat.le_of_ble_eq_true rfl)⟩) ⟨zx_blind, va_recv hK hPc (ci := 13) (q0 := 0) rfl rfl, zx_give hPc hK hDc hS hFc hZ hN⟩ rfl rfl hl.1 rfl (lv_room (Nat.le_of_ble_eq_true rfl)) dX8_evened_2 ⟨(Nat.le_of_ble_eq_true rfl), (Nat.le_of_ble_eq_true rfl)⟩) hS (fun q _ h => hFc q h) hFc (fun q _ h => hFc q h) (fun E9 ce9 q9 _ t H locs ht hvm _ hBX hz1 hk1 hS hce hcv hcl => ?_) (fun r9 u t H locs ht hvm hw hB hz1 hk1 hS => ?_)
  · exact vx_out (fun x9 h9 => absurd h9 (htb x9)) hlocks hce hcv hcl (zx_pass (P := (fun E9 => E9 = "java/lang/IndexOutOfBoundsException")) hS (hBX)) hS.2.2 (Nat.le_of_ble_eq_true rfl) (Nat.le_of_ble_eq_true rfl)
  · exact hw.elim
set_option maxHeartbeats 4000000 in
set_option maxRecDepth 100000 in
theorem c_X8_meet (l : Launch) (hst : l.stackTraces = false) (D : va_G) (cy : Nat → ClassId) (ed sz : Nat) (h : Nat) (pe : Nat) (ne : Nat) (pa : Nat) (ro : Nat) (dy : Int32) (mc : Int32) (el : Nat) (p0 : Int32) (p1 : Int32) (p2 : Int32) : vx_Met l yX8_meet wzX8_meet ({ frames := 8, cells := 1, slots := 6, locals := 123 }) (zx_Pc D cy ed sz [.ref h, .int p0, .int p1, .int p2] [(h, .inr (13, [.ref pe, .ref ne, .ref pa, .ref ro, .int dy])), (pa, .inr (4, [.int mc, .ref el, .int 0]))]) (va_Qi (fun (_ : Int32) (_ : Unit) => False) (fun (u9 : Unit) (t9 : State) => zx_At D cy (va_A [(h, .inr (13, [.ref pe, .ref ne, .ref pa, .ref ro, .int dy])), (pa, .inr (4, [.int mc, .ref el, .int 0]))] sz) [] t9) (va_A [(h, .inr (13, [.ref pe, .ref ne, .ref pa, .ref ro, .int dy])), (pa, .inr (4, [.int mc, .ref el, .int 0]))] sz)) (zx_X (fun E9 => E9 = "java/lang/IndexOutOfBoundsException") (va_A [(h, .inr (13, [.ref pe, .ref ne, .ref pa, .ref ro, .int dy])), (pa, .inr (4, [.int mc, .ref el, .int 0]))] sz)) 1 6 (va_A [(h, .inr (13, [.ref pe, .ref ne, .ref pa, .ref ro, .int dy])), (pa, .inr (4, [.int mc, .ref el, .int 0]))] sz) := by
  refine vx_ofW (cc := cX8_meet) (maxL := 6) (ret := (some .int)) (by decide) rfl ?_
  intro p e s m args below meth c s₁ B hml htb hv
  obtain ⟨rfl, hsz, hP, hK, hD0, hZ, hN⟩ := hv
  have hx := B.exec
  have hb := B.bytes
  have hr := B.returns
  have hts := atoms_spec (ws := wzX8_meet) B.pre
  have hown : s.vm.findClass RX8 = some m.cls := findClass_of_methodNamed B.named
  have hlocks := B.notSynchronized
  subst hsz
  have hD := hD0.self (sz := s.heap.size)
  generalize hAe : va_A [(h, .inr (13, [.ref pe, .ref ne, .ref pa, .ref ro, .int dy])), (pa, .inr (4, [.int mc, .ref el, .int 0]))] s.heap.size = A at hD hZ ⊢
  have hA : ∀ q : Nat, s.heap.size ≤ q → A q := fun q h => by rw [← hAe]; exact Or.inr h
  have hS : va_S A s.heap s.heap [] := va_S.rf
  have hP : va_P D vwCl [(h, .inr (13, [.ref pe, .ref ne, .ref pa, .ref ro, .int dy])), (pa, .inr (4, [.int mc, .ref el, .int 0]))] s.heap := hP
  have hl := lv_entry ([.ref h, .int p0, .int p1, .int p2]) (n := 6) (Nat.le_of_ble_eq_true rfl)
  rw [lg_entry_eq]
  generalize (lg_sl ([.ref h, .int p0, .int p1, .int p2]) ++ List.replicate (6 - (lg_sl ([.ref h, .int p0, .int p1, .int p2])).length) Slot.unset).toArray = ls at hl ⊢
  have hl : lv_has ls 6 [(0, .ref h), (1, .int p0), (2, .int p1), (3, .int p2)] := hl
  refine lv_aload_n hx hb dX8_meet_0 rfl (lv_at hl 0 rfl) ?_
  refine lv_iload_n hx hb dX8_meet_1 rfl (lv_at hl 1 rfl) ?_
  have hPc := hP.sub (ws' := [(h, .inr (13, [.ref pe, .ref ne, .ref pa, .ref ro, .int dy])), (pa, .inr (4, [.int mc, .ref el, .int 0]))]) [0, 1] rfl
  have hDc := hD.sub (ws' := [(h, .inr (13, [.ref pe, .ref ne, .ref pa, .ref ro, .int dy])), (pa, .inr (4, [.int mc, .ref el, .int 0]))]) [0, 1] (by decide) rfl
  have hFc := va_free (wc := [(h, .inr (13, [.ref pe, .ref ne, .ref pa, .ref ro, .int dy])), (pa, .inr (4, [.int mc, .ref el, .int 0]))]) hD hS hA [0, 1] rfl
  refine vx_callq (vx_runV (As := [.int p0]) (rest := []) ⟨hx, hb, hml, hown, hts⟩ (c_X8_paperAt l hst D cy ed s.heap.size h pe ne pa ro dy mc el p0) (cwV 1 hts (zx_GV mm_845 mm_847 mm_8 mm_71 mm_848) rfl rfl rfl (by decide +kernel) ⟨(Nat.le_of_ble_eq_true rfl), (Nat.le_of_ble_eq_true rfl)⟩) ⟨zx_blind, va_recv hK hPc (ci := 13) (q0 := 0) rfl rfl, zx_give hPc hK hDc hS hFc hZ hN⟩ rfl rfl hl.1 rfl (lv_room (Nat.le_of_ble_eq_true rfl)) dX8_meet_2 ⟨(Nat.le_of_ble_eq_true rfl), (Nat.le_of_ble_eq_true rfl)⟩) hS (fun q _ h => hFc q h) hFc (fun q _ h => hFc q h) (fun E9 ce9 q9 _ t H locs ht hvm _ hBX hz1 hk1 hS hce hcv hcl => ?_) (fun r9 u t H locs ht hvm hw hB hz1 hk1 hS => ?_)
  · exact vx_out (fun x9 h9 => absurd h9 (htb x9)) hlocks hce hcv hcl (zx_pass (P := (fun E9 => E9 = "java/lang/IndexOutOfBoundsException")) hS (hBX)) hS.2.2 (Nat.le_of_ble_eq_true rfl) (Nat.le_of_ble_eq_true rfl)
  · exact hw.elim
set_option maxHeartbeats 4000000 in
set_option maxRecDepth 100000 in
theorem c_X8_openPoints (l : Launch) (hst : l.stackTraces = false) (D : va_G) (cy : Nat → ClassId) (ed sz : Nat) (h : Nat) (pe : Nat) (ne : Nat) (pa : Nat) (ro : Nat) (dy : Int32) (mc : Int32) (el : Nat) (p0 : Int32) : vx_Met l yX8_openPoints wzX8_openPoints ({ frames := 8, cells := 1, slots := 6, locals := 123 }) (zx_Pc D cy ed sz [.ref h, .int p0] [(h, .inr (13, [.ref pe, .ref ne, .ref pa, .ref ro, .int dy])), (pa, .inr (4, [.int mc, .ref el, .int 0]))]) (va_Qi (fun (_ : Int32) (_ : Unit) => False) (fun (u9 : Unit) (t9 : State) => zx_At D cy (va_A [(h, .inr (13, [.ref pe, .ref ne, .ref pa, .ref ro, .int dy])), (pa, .inr (4, [.int mc, .ref el, .int 0]))] sz) [] t9) (va_A [(h, .inr (13, [.ref pe, .ref ne, .ref pa, .ref ro, .int dy])), (pa, .inr (4, [.int mc, .ref el, .int 0]))] sz)) (zx_X (fun E9 => E9 = "java/lang/IndexOutOfBoundsException") (va_A [(h, .inr (13, [.ref pe, .ref ne, .ref pa, .ref ro, .int dy])), (pa, .inr (4, [.int mc, .ref el, .int 0]))] sz)) 1 6 (va_A [(h, .inr (13, [.ref pe, .ref ne, .ref pa, .ref ro, .int dy])), (pa, .inr (4, [.int mc, .ref el, .int 0]))] sz) := by
  refine vx_ofW (cc := cX8_openPoints) (maxL := 3) (ret := (some .int)) (by decide) rfl ?_
  intro p e s m args below meth c s₁ B hml htb hv
  obtain ⟨rfl, hsz, hP, hK, hD0, hZ, hN⟩ := hv
  have hx := B.exec
  have hb := B.bytes
  have hr := B.returns
  have hts := atoms_spec (ws := wzX8_openPoints) B.pre
  have hown : s.vm.findClass RX8 = some m.cls := findClass_of_methodNamed B.named
  have hlocks := B.notSynchronized
  subst hsz
  have hD := hD0.self (sz := s.heap.size)
  generalize hAe : va_A [(h, .inr (13, [.ref pe, .ref ne, .ref pa, .ref ro, .int dy])), (pa, .inr (4, [.int mc, .ref el, .int 0]))] s.heap.size = A at hD hZ ⊢
  have hA : ∀ q : Nat, s.heap.size ≤ q → A q := fun q h => by rw [← hAe]; exact Or.inr h
  have hS : va_S A s.heap s.heap [] := va_S.rf
  have hP : va_P D vwCl [(h, .inr (13, [.ref pe, .ref ne, .ref pa, .ref ro, .int dy])), (pa, .inr (4, [.int mc, .ref el, .int 0]))] s.heap := hP
  have hl := lv_entry ([.ref h, .int p0]) (n := 3) (Nat.le_of_ble_eq_true rfl)
  rw [lg_entry_eq]
  generalize (lg_sl ([.ref h, .int p0]) ++ List.replicate (3 - (lg_sl ([.ref h, .int p0])).length) Slot.unset).toArray = ls at hl ⊢
  have hl : lv_has ls 3 [(0, .ref h), (1, .int p0)] := hl
  refine lv_aload_n hx hb dX8_openPoints_0 rfl (lv_at hl 0 rfl) ?_
  refine lv_iload_n hx hb dX8_openPoints_1 rfl (lv_at hl 1 rfl) ?_
  have hPc := hP.sub (ws' := [(h, .inr (13, [.ref pe, .ref ne, .ref pa, .ref ro, .int dy])), (pa, .inr (4, [.int mc, .ref el, .int 0]))]) [0, 1] rfl
  have hDc := hD.sub (ws' := [(h, .inr (13, [.ref pe, .ref ne, .ref pa, .ref ro, .int dy])), (pa, .inr (4, [.int mc, .ref el, .int 0]))]) [0, 1] (by decide) rfl
  have hFc := va_free (wc := [(h, .inr (13, [.ref pe, .ref ne, .ref pa, .ref ro, .int dy])), (pa, .inr (4, [.int mc, .ref el, .int 0]))]) hD hS hA [0, 1] rfl
  refine vx_callq (vx_runV (As := [.int p0]) (rest := []) ⟨hx, hb, hml, hown, hts⟩ (c_X8_paperAt l hst D cy ed s.heap.size h pe ne pa ro dy mc el p0) (cwV 1 hts (zx_GV mm_845 mm_847 mm_8 mm_71 mm_848) rfl rfl rfl (by decide +kernel) ⟨(Nat.le_of_ble_eq_true rfl), (Nat.le_of_ble_eq_true rfl)⟩) ⟨zx_blind, va_recv hK hPc (ci := 13) (q0 := 0) rfl rfl, zx_give hPc hK hDc hS hFc hZ hN⟩ rfl rfl hl.1 rfl (lv_room (Nat.le_of_ble_eq_true rfl)) dX8_openPoints_2 ⟨(Nat.le_of_ble_eq_true rfl), (Nat.le_of_ble_eq_true rfl)⟩) hS (fun q _ h => hFc q h) hFc (fun q _ h => hFc q h) (fun E9 ce9 q9 _ t H locs ht hvm _ hBX hz1 hk1 hS hce hcv hcl => ?_) (fun r9 u t H locs ht hvm hw hB hz1 hk1 hS => ?_)
  · exact vx_out (fun x9 h9 => absurd h9 (htb x9)) hlocks hce hcv hcl (zx_pass (P := (fun E9 => E9 = "java/lang/IndexOutOfBoundsException")) hS (hBX)) hS.2.2 (Nat.le_of_ble_eq_true rfl) (Nat.le_of_ble_eq_true rfl)
  · exact hw.elim
set_option maxHeartbeats 4000000 in
set_option maxRecDepth 100000 in
theorem c_X8_decide (l : Launch) (hst : l.stackTraces = false) (D : va_G) (cy : Nat → ClassId) (ed sz : Nat) (h : Nat) (pe : Nat) (ne : Nat) (pa : Nat) (ro : Nat) (dy : Int32) (mc : Int32) (el : Nat) (p0 : Int32) : vx_Met l yX8_decide wzX8_decide ({ frames := 8, cells := 1, slots := 6, locals := 123 }) (zx_Pc D cy ed sz [.ref h, .int p0] [(h, .inr (13, [.ref pe, .ref ne, .ref pa, .ref ro, .int dy])), (pa, .inr (4, [.int mc, .ref el, .int 0]))]) (va_Qi (fun (_ : Int32) (_ : Unit) => False) (fun (u9 : Unit) (t9 : State) => zx_At D cy (va_A [(h, .inr (13, [.ref pe, .ref ne, .ref pa, .ref ro, .int dy])), (pa, .inr (4, [.int mc, .ref el, .int 0]))] sz) [] t9) (va_A [(h, .inr (13, [.ref pe, .ref ne, .ref pa, .ref ro, .int dy])), (pa, .inr (4, [.int mc, .ref el, .int 0]))] sz)) (zx_X (fun E9 => E9 = "java/lang/IndexOutOfBoundsException") (va_A [(h, .inr (13, [.ref pe, .ref ne, .ref pa, .ref ro, .int dy])), (pa, .inr (4, [.int mc, .ref el, .int 0]))] sz)) 1 6 (va_A [(h, .inr (13, [.ref pe, .ref ne, .ref pa, .ref ro, .int dy])), (pa, .inr (4, [.int mc, .ref el, .int 0]))] sz) := by
  refine vx_ofW (cc := cX8_decide) (maxL := 4) (ret := (some .char)) (by decide) rfl ?_
  intro p e s m args below meth c s₁ B hml htb hv
  obtain ⟨rfl, hsz, hP, hK, hD0, hZ, hN⟩ := hv
  have hx := B.exec
  have hb := B.bytes
  have hr := B.returns
  have hts := atoms_spec (ws := wzX8_decide) B.pre
  have hown : s.vm.findClass RX8 = some m.cls := findClass_of_methodNamed B.named
  have hlocks := B.notSynchronized
  subst hsz
  have hD := hD0.self (sz := s.heap.size)
  generalize hAe : va_A [(h, .inr (13, [.ref pe, .ref ne, .ref pa, .ref ro, .int dy])), (pa, .inr (4, [.int mc, .ref el, .int 0]))] s.heap.size = A at hD hZ ⊢
  have hA : ∀ q : Nat, s.heap.size ≤ q → A q := fun q h => by rw [← hAe]; exact Or.inr h
  have hS : va_S A s.heap s.heap [] := va_S.rf
  have hP : va_P D vwCl [(h, .inr (13, [.ref pe, .ref ne, .ref pa, .ref ro, .int dy])), (pa, .inr (4, [.int mc, .ref el, .int 0]))] s.heap := hP
  have hl := lv_entry ([.ref h, .int p0]) (n := 4) (Nat.le_of_ble_eq_true rfl)
  rw [lg_entry_eq]
  generalize (lg_sl ([.ref h, .int p0]) ++ List.replicate (4 - (lg_sl ([.ref h, .int p0])).length) Slot.unset).toArray = ls at hl ⊢
  have hl : lv_has ls 4 [(0, .ref h), (1, .int p0)] := hl
  refine lv_aload_n hx hb dX8_decide_0 rfl (lv_at hl 0 rfl) ?_
  refine lv_iload_n hx hb dX8_decide_1 rfl (lv_at hl 1 rfl) ?_
  have hPc := hP.sub (ws' := [(h, .inr (13, [.ref pe, .ref ne, .ref pa, .ref ro, .int dy])), (pa, .inr (4, [.int mc, .ref el, .int 0]))]) [0, 1] rfl
  have hDc := hD.sub (ws' := [(h, .inr (13, [.ref pe, .ref ne, .ref pa, .ref ro, .int dy])), (pa, .inr (4, [.int mc, .ref el, .int 0]))]) [0, 1] (by decide) rfl
  have hFc := va_free (wc := [(h, .inr (13, [.ref pe, .ref ne, .ref pa, .ref ro, .int dy])), (pa, .inr (4, [.int mc, .ref el, .int 0]))]) hD hS hA [0, 1] rfl
  refine vx_callq (vx_runV (As := [.int p0]) (rest := []) ⟨hx, hb, hml, hown, hts⟩ (c_X8_paperAt l hst D cy ed s.heap.size h pe ne pa ro dy mc el p0) (cwV 1 hts (zx_GV mm_845 mm_847 mm_8 mm_71 mm_848) rfl rfl rfl (by decide +kernel) ⟨(Nat.le_of_ble_eq_true rfl), (Nat.le_of_ble_eq_true rfl)⟩) ⟨zx_blind, va_recv hK hPc (ci := 13) (q0 := 0) rfl rfl, zx_give hPc hK hDc hS hFc hZ hN⟩ rfl rfl hl.1 rfl (lv_room (Nat.le_of_ble_eq_true rfl)) dX8_decide_2 ⟨(Nat.le_of_ble_eq_true rfl), (Nat.le_of_ble_eq_true rfl)⟩) hS (fun q _ h => hFc q h) hFc (fun q _ h => hFc q h) (fun E9 ce9 q9 _ t H locs ht hvm _ hBX hz1 hk1 hS hce hcv hcl => ?_) (fun r9 u t H locs ht hvm hw hB hz1 hk1 hS => ?_)
  · exact vx_out (fun x9 h9 => absurd h9 (htb x9)) hlocks hce hcv hcl (zx_pass (P := (fun E9 => E9 = "java/lang/IndexOutOfBoundsException")) hS (hBX)) hS.2.2 (Nat.le_of_ble_eq_true rfl) (Nat.le_of_ble_eq_true rfl)
  · exact hw.elim
set_option maxHeartbeats 4000000 in
set_option maxRecDepth 100000 in
theorem c_X8_appeal (l : Launch) (hst : l.stackTraces = false) (D : va_G) (cy : Nat → ClassId) (ed sz : Nat) (h : Nat) (pe : Nat) (ne : Nat) (pa : Nat) (ro : Nat) (dy : Int32) (mc : Int32) (el : Nat) (p0 : Int32) : vx_Met l yX8_appeal wzX8_appeal ({ frames := 8, cells := 1, slots := 6, locals := 123 }) (zx_Pc D cy ed sz [.ref h, .int p0] [(h, .inr (13, [.ref pe, .ref ne, .ref pa, .ref ro, .int dy])), (pa, .inr (4, [.int mc, .ref el, .int 0]))]) (va_Qi (fun (_ : Int32) (_ : Unit) => False) (fun (u9 : Unit) (t9 : State) => zx_At D cy (va_A [(h, .inr (13, [.ref pe, .ref ne, .ref pa, .ref ro, .int dy])), (pa, .inr (4, [.int mc, .ref el, .int 0]))] sz) [] t9) (va_A [(h, .inr (13, [.ref pe, .ref ne, .ref pa, .ref ro, .int dy])), (pa, .inr (4, [.int mc, .ref el, .int 0]))] sz)) (zx_X (fun E9 => E9 = "java/lang/IndexOutOfBoundsException") (va_A [(h, .inr (13, [.ref pe, .ref ne, .ref pa, .ref ro, .int dy])), (pa, .inr (4, [.int mc, .ref el, .int 0]))] sz)) 1 6 (va_A [(h, .inr (13, [.ref pe, .ref ne, .ref pa, .ref ro, .int dy])), (pa, .inr (4, [.int mc, .ref el, .int 0]))] sz) := by
  refine vx_ofW (cc := cX8_appeal) (maxL := 4) (ret := (some .int)) (by decide) rfl ?_
  intro p e s m args below meth c s₁ B hml htb hv
  obtain ⟨rfl, hsz, hP, hK, hD0, hZ, hN⟩ := hv
  have hx := B.exec
  have hb := B.bytes
  have hr := B.returns
  have hts := atoms_spec (ws := wzX8_appeal) B.pre
  have hown : s.vm.findClass RX8 = some m.cls := findClass_of_methodNamed B.named
  have hlocks := B.notSynchronized
  subst hsz
  have hD := hD0.self (sz := s.heap.size)
  generalize hAe : va_A [(h, .inr (13, [.ref pe, .ref ne, .ref pa, .ref ro, .int dy])), (pa, .inr (4, [.int mc, .ref el, .int 0]))] s.heap.size = A at hD hZ ⊢
  have hA : ∀ q : Nat, s.heap.size ≤ q → A q := fun q h => by rw [← hAe]; exact Or.inr h
  have hS : va_S A s.heap s.heap [] := va_S.rf
  have hP : va_P D vwCl [(h, .inr (13, [.ref pe, .ref ne, .ref pa, .ref ro, .int dy])), (pa, .inr (4, [.int mc, .ref el, .int 0]))] s.heap := hP
  have hl := lv_entry ([.ref h, .int p0]) (n := 4) (Nat.le_of_ble_eq_true rfl)
  rw [lg_entry_eq]
  generalize (lg_sl ([.ref h, .int p0]) ++ List.replicate (4 - (lg_sl ([.ref h, .int p0])).length) Slot.unset).toArray = ls at hl ⊢
  have hl : lv_has ls 4 [(0, .ref h), (1, .int p0)] := hl
  refine lv_aload_n hx hb dX8_appeal_0 rfl (lv_at hl 0 rfl) ?_
  refine lv_iload_n hx hb dX8_appeal_1 rfl (lv_at hl 1 rfl) ?_
  have hPc := hP.sub (ws' := [(h, .inr (13, [.ref pe, .ref ne, .ref pa, .ref ro, .int dy])), (pa, .inr (4, [.int mc, .ref el, .int 0]))]) [0, 1] rfl
  have hDc := hD.sub (ws' := [(h, .inr (13, [.ref pe, .ref ne, .ref pa, .ref ro, .int dy])), (pa, .inr (4, [.int mc, .ref el, .int 0]))]) [0, 1] (by decide) rfl
  have hFc := va_free (wc := [(h, .inr (13, [.ref pe, .ref ne, .ref pa, .ref ro, .int dy])), (pa, .inr (4, [.int mc, .ref el, .int 0]))]) hD hS hA [0, 1] rfl
  refine vx_callq (vx_runV (As := [.int p0]) (rest := []) ⟨hx, hb, hml, hown, hts⟩ (c_X8_paperAt l hst D cy ed s.heap.size h pe ne pa ro dy mc el p0) (cwV 1 hts (zx_GV mm_845 mm_847 mm_8 mm_71 mm_848) rfl rfl rfl (by decide +kernel) ⟨(Nat.le_of_ble_eq_true rfl), (Nat.le_of_ble_eq_true rfl)⟩) ⟨zx_blind, va_recv hK hPc (ci := 13) (q0 := 0) rfl rfl, zx_give hPc hK hDc hS hFc hZ hN⟩ rfl rfl hl.1 rfl (lv_room (Nat.le_of_ble_eq_true rfl)) dX8_appeal_2 ⟨(Nat.le_of_ble_eq_true rfl), (Nat.le_of_ble_eq_true rfl)⟩) hS (fun q _ h => hFc q h) hFc (fun q _ h => hFc q h) (fun E9 ce9 q9 _ t H locs ht hvm _ hBX hz1 hk1 hS hce hcv hcl => ?_) (fun r9 u t H locs ht hvm hw hB hz1 hk1 hS => ?_)
  · exact vx_out (fun x9 h9 => absurd h9 (htb x9)) hlocks hce hcv hcl (zx_pass (P := (fun E9 => E9 = "java/lang/IndexOutOfBoundsException")) hS (hBX)) hS.2.2 (Nat.le_of_ble_eq_true rfl) (Nat.le_of_ble_eq_true rfl)
  · exact hw.elim
set_option maxHeartbeats 4000000 in
set_option maxRecDepth 100000 in
theorem c_X8_transfer (l : Launch) (hst : l.stackTraces = false) (D : va_G) (cy : Nat → ClassId) (ed sz : Nat) (h : Nat) (pe : Nat) (ne : Nat) (pa : Nat) (ro : Nat) (dy : Int32) (mc : Int32) (el : Nat) (p0 : Int32) (p1 : Int32) : vx_Met l yX8_transfer wzX8_transfer ({ frames := 8, cells := 1, slots := 6, locals := 123 }) (zx_Pc D cy ed sz [.ref h, .int p0, .int p1] [(h, .inr (13, [.ref pe, .ref ne, .ref pa, .ref ro, .int dy])), (pa, .inr (4, [.int mc, .ref el, .int 0]))]) (va_Qi (fun (_ : Int32) (_ : Unit) => False) (fun (u9 : Unit) (t9 : State) => zx_At D cy (va_A [(h, .inr (13, [.ref pe, .ref ne, .ref pa, .ref ro, .int dy])), (pa, .inr (4, [.int mc, .ref el, .int 0]))] sz) [] t9) (va_A [(h, .inr (13, [.ref pe, .ref ne, .ref pa, .ref ro, .int dy])), (pa, .inr (4, [.int mc, .ref el, .int 0]))] sz)) (zx_X (fun E9 => E9 = "java/lang/IndexOutOfBoundsException") (va_A [(h, .inr (13, [.ref pe, .ref ne, .ref pa, .ref ro, .int dy])), (pa, .inr (4, [.int mc, .ref el, .int 0]))] sz)) 1 6 (va_A [(h, .inr (13, [.ref pe, .ref ne, .ref pa, .ref ro, .int dy])), (pa, .inr (4, [.int mc, .ref el, .int 0]))] sz) := by
  refine vx_ofW (cc := cX8_transfer) (maxL := 4) (ret := (some .int)) (by decide) rfl ?_
  intro p e s m args below meth c s₁ B hml htb hv
  obtain ⟨rfl, hsz, hP, hK, hD0, hZ, hN⟩ := hv
  have hx := B.exec
  have hb := B.bytes
  have hr := B.returns
  have hts := atoms_spec (ws := wzX8_transfer) B.pre
  have hown : s.vm.findClass RX8 = some m.cls := findClass_of_methodNamed B.named
  have hlocks := B.notSynchronized
  subst hsz
  have hD := hD0.self (sz := s.heap.size)
  generalize hAe : va_A [(h, .inr (13, [.ref pe, .ref ne, .ref pa, .ref ro, .int dy])), (pa, .inr (4, [.int mc, .ref el, .int 0]))] s.heap.size = A at hD hZ ⊢
  have hA : ∀ q : Nat, s.heap.size ≤ q → A q := fun q h => by rw [← hAe]; exact Or.inr h
  have hS : va_S A s.heap s.heap [] := va_S.rf
  have hP : va_P D vwCl [(h, .inr (13, [.ref pe, .ref ne, .ref pa, .ref ro, .int dy])), (pa, .inr (4, [.int mc, .ref el, .int 0]))] s.heap := hP
  have hl := lv_entry ([.ref h, .int p0, .int p1]) (n := 4) (Nat.le_of_ble_eq_true rfl)
  rw [lg_entry_eq]
  generalize (lg_sl ([.ref h, .int p0, .int p1]) ++ List.replicate (4 - (lg_sl ([.ref h, .int p0, .int p1])).length) Slot.unset).toArray = ls at hl ⊢
  have hl : lv_has ls 4 [(0, .ref h), (1, .int p0), (2, .int p1)] := hl
  refine lv_aload_n hx hb dX8_transfer_0 rfl (lv_at hl 0 rfl) ?_
  refine lv_iload_n hx hb dX8_transfer_1 rfl (lv_at hl 1 rfl) ?_
  have hPc := hP.sub (ws' := [(h, .inr (13, [.ref pe, .ref ne, .ref pa, .ref ro, .int dy])), (pa, .inr (4, [.int mc, .ref el, .int 0]))]) [0, 1] rfl
  have hDc := hD.sub (ws' := [(h, .inr (13, [.ref pe, .ref ne, .ref pa, .ref ro, .int dy])), (pa, .inr (4, [.int mc, .ref el, .int 0]))]) [0, 1] (by decide) rfl
  have hFc := va_free (wc := [(h, .inr (13, [.ref pe, .ref ne, .ref pa, .ref ro, .int dy])), (pa, .inr (4, [.int mc, .ref el, .int 0]))]) hD hS hA [0, 1] rfl
  refine vx_callq (vx_runV (As := [.int p0]) (rest := []) ⟨hx, hb, hml, hown, hts⟩ (c_X8_paperAt l hst D cy ed s.heap.size h pe ne pa ro dy mc el p0) (cwV 1 hts (zx_GV mm_845 mm_847 mm_8 mm_71 mm_848) rfl rfl rfl (by decide +kernel) ⟨(Nat.le_of_ble_eq_true rfl), (Nat.le_of_ble_eq_true rfl)⟩) ⟨zx_blind, va_recv hK hPc (ci := 13) (q0 := 0) rfl rfl, zx_give hPc hK hDc hS hFc hZ hN⟩ rfl rfl hl.1 rfl (lv_room (Nat.le_of_ble_eq_true rfl)) dX8_transfer_2 ⟨(Nat.le_of_ble_eq_true rfl), (Nat.le_of_ble_eq_true rfl)⟩) hS (fun q _ h => hFc q h) hFc (fun q _ h => hFc q h) (fun E9 ce9 q9 _ t H locs ht hvm _ hBX hz1 hk1 hS hce hcv hcl => ?_) (fun r9 u t H locs ht hvm hw hB hz1 hk1 hS => ?_)
  · exact vx_out (fun x9 h9 => absurd h9 (htb x9)) hlocks hce hcv hcl (zx_pass (P := (fun E9 => E9 = "java/lang/IndexOutOfBoundsException")) hS (hBX)) hS.2.2 (Nat.le_of_ble_eq_true rfl) (Nat.le_of_ble_eq_true rfl)
  · exact hw.elim
set_option maxHeartbeats 4000000 in
set_option maxRecDepth 100000 in
theorem c_X8_showAhead (l : Launch) (hst : l.stackTraces = false) (D : va_G) (cy : Nat → ClassId) (ed sz : Nat) (h : Nat) (pe : Nat) (ne : Nat) (pa : Nat) (ro : Nat) (dy : Int32) (mc : Int32) (el : Nat) (p0 : Int32) : vx_Met l yX8_showAhead wzX8_showAhead ({ frames := 8, cells := 1, slots := 6, locals := 123 }) (zx_Pc D cy ed sz [.ref h, .int p0] [(h, .inr (13, [.ref pe, .ref ne, .ref pa, .ref ro, .int dy])), (pa, .inr (4, [.int mc, .ref el, .int 0]))]) (va_Qi (fun (_ : Int32) (_ : Unit) => False) (fun (u9 : Unit) (t9 : State) => zx_At D cy (va_A [(h, .inr (13, [.ref pe, .ref ne, .ref pa, .ref ro, .int dy])), (pa, .inr (4, [.int mc, .ref el, .int 0]))] sz) [] t9) (va_A [(h, .inr (13, [.ref pe, .ref ne, .ref pa, .ref ro, .int dy])), (pa, .inr (4, [.int mc, .ref el, .int 0]))] sz)) (zx_X (fun E9 => E9 = "java/lang/IndexOutOfBoundsException") (va_A [(h, .inr (13, [.ref pe, .ref ne, .ref pa, .ref ro, .int dy])), (pa, .inr (4, [.int mc, .ref el, .int 0]))] sz)) 1 6 (va_A [(h, .inr (13, [.ref pe, .ref ne, .ref pa, .ref ro, .int dy])), (pa, .inr (4, [.int mc, .ref el, .int 0]))] sz) := by
  refine vx_ofW (cc := cX8_showAhead) (maxL := 3) (ret := (some .int)) (by decide) rfl ?_
  intro p e s m args below meth c s₁ B hml htb hv
  obtain ⟨rfl, hsz, hP, hK, hD0, hZ, hN⟩ := hv
  have hx := B.exec
  have hb := B.bytes
  have hr := B.returns
  have hts := atoms_spec (ws := wzX8_showAhead) B.pre
  have hown : s.vm.findClass RX8 = some m.cls := findClass_of_methodNamed B.named
  have hlocks := B.notSynchronized
  subst hsz
  have hD := hD0.self (sz := s.heap.size)
  generalize hAe : va_A [(h, .inr (13, [.ref pe, .ref ne, .ref pa, .ref ro, .int dy])), (pa, .inr (4, [.int mc, .ref el, .int 0]))] s.heap.size = A at hD hZ ⊢
  have hA : ∀ q : Nat, s.heap.size ≤ q → A q := fun q h => by rw [← hAe]; exact Or.inr h
  have hS : va_S A s.heap s.heap [] := va_S.rf
  have hP : va_P D vwCl [(h, .inr (13, [.ref pe, .ref ne, .ref pa, .ref ro, .int dy])), (pa, .inr (4, [.int mc, .ref el, .int 0]))] s.heap := hP
  have hl := lv_entry ([.ref h, .int p0]) (n := 3) (Nat.le_of_ble_eq_true rfl)
  rw [lg_entry_eq]
  generalize (lg_sl ([.ref h, .int p0]) ++ List.replicate (3 - (lg_sl ([.ref h, .int p0])).length) Slot.unset).toArray = ls at hl ⊢
  have hl : lv_has ls 3 [(0, .ref h), (1, .int p0)] := hl
  refine lv_aload_n hx hb dX8_showAhead_0 rfl (lv_at hl 0 rfl) ?_
  refine lv_iload_n hx hb dX8_showAhead_1 rfl (lv_at hl 1 rfl) ?_
  have hPc := hP.sub (ws' := [(h, .inr (13, [.ref pe, .ref ne, .ref pa, .ref ro, .int dy])), (pa, .inr (4, [.int mc, .ref el, .int 0]))]) [0, 1] rfl
  have hDc := hD.sub (ws' := [(h, .inr (13, [.ref pe, .ref ne, .ref pa, .ref ro, .int dy])), (pa, .inr (4, [.int mc, .ref el, .int 0]))]) [0, 1] (by decide) rfl
  have hFc := va_free (wc := [(h, .inr (13, [.ref pe, .ref ne, .ref pa, .ref ro, .int dy])), (pa, .inr (4, [.int mc, .ref el, .int 0]))]) hD hS hA [0, 1] rfl
  refine vx_callq (vx_runV (As := [.int p0]) (rest := []) ⟨hx, hb, hml, hown, hts⟩ (c_X8_paperAt l hst D cy ed s.heap.size h pe ne pa ro dy mc el p0) (cwV 1 hts (zx_GV mm_845 mm_847 mm_8 mm_71 mm_848) rfl rfl rfl (by decide +kernel) ⟨(Nat.le_of_ble_eq_true rfl), (Nat.le_of_ble_eq_true rfl)⟩) ⟨zx_blind, va_recv hK hPc (ci := 13) (q0 := 0) rfl rfl, zx_give hPc hK hDc hS hFc hZ hN⟩ rfl rfl hl.1 rfl (lv_room (Nat.le_of_ble_eq_true rfl)) dX8_showAhead_2 ⟨(Nat.le_of_ble_eq_true rfl), (Nat.le_of_ble_eq_true rfl)⟩) hS (fun q _ h => hFc q h) hFc (fun q _ h => hFc q h) (fun E9 ce9 q9 _ t H locs ht hvm _ hBX hz1 hk1 hS hce hcv hcl => ?_) (fun r9 u t H locs ht hvm hw hB hz1 hk1 hS => ?_)
  · exact vx_out (fun x9 h9 => absurd h9 (htb x9)) hlocks hce hcv hcl (zx_pass (P := (fun E9 => E9 = "java/lang/IndexOutOfBoundsException")) hS (hBX)) hS.2.2 (Nat.le_of_ble_eq_true rfl) (Nat.le_of_ble_eq_true rfl)
  · exact hw.elim
set_option maxHeartbeats 4000000 in
set_option maxRecDepth 100000 in
theorem c_X8_priority (l : Launch) (hst : l.stackTraces = false) (D : va_G) (cy : Nat → ClassId) (ed sz : Nat) (h : Nat) (pe : Nat) (ne : Nat) (pa : Nat) (ro : Nat) (dy : Int32) (mc : Int32) (el : Nat) (p0 : Int32) : vx_Met l yX8_priority wzX8_priority ({ frames := 8, cells := 1, slots := 6, locals := 123 }) (zx_Pc D cy ed sz [.ref h, .int p0] [(h, .inr (13, [.ref pe, .ref ne, .ref pa, .ref ro, .int dy])), (pa, .inr (4, [.int mc, .ref el, .int 0]))]) (va_Qi (fun (_ : Int32) (_ : Unit) => False) (fun (u9 : Unit) (t9 : State) => zx_At D cy (va_A [(h, .inr (13, [.ref pe, .ref ne, .ref pa, .ref ro, .int dy])), (pa, .inr (4, [.int mc, .ref el, .int 0]))] sz) [] t9) (va_A [(h, .inr (13, [.ref pe, .ref ne, .ref pa, .ref ro, .int dy])), (pa, .inr (4, [.int mc, .ref el, .int 0]))] sz)) (zx_X (fun E9 => E9 = "java/lang/IndexOutOfBoundsException") (va_A [(h, .inr (13, [.ref pe, .ref ne, .ref pa, .ref ro, .int dy])), (pa, .inr (4, [.int mc, .ref el, .int 0]))] sz)) 1 6 (va_A [(h, .inr (13, [.ref pe, .ref ne, .ref pa, .ref ro, .int dy])), (pa, .inr (4, [.int mc, .ref el, .int 0]))] sz) := by
  refine vx_ofW (cc := cX8_priority) (maxL := 3) (ret := (some .int)) (by decide) rfl ?_
  intro p e s m args below meth c s₁ B hml htb hv
  obtain ⟨rfl, hsz, hP, hK, hD0, hZ, hN⟩ := hv
  have hx := B.exec
  have hb := B.bytes
  have hr := B.returns
  have hts := atoms_spec (ws := wzX8_priority) B.pre
  have hown : s.vm.findClass RX8 = some m.cls := findClass_of_methodNamed B.named
  have hlocks := B.notSynchronized
  subst hsz
  have hD := hD0.self (sz := s.heap.size)
  generalize hAe : va_A [(h, .inr (13, [.ref pe, .ref ne, .ref pa, .ref ro, .int dy])), (pa, .inr (4, [.int mc, .ref el, .int 0]))] s.heap.size = A at hD hZ ⊢
  have hA : ∀ q : Nat, s.heap.size ≤ q → A q := fun q h => by rw [← hAe]; exact Or.inr h
  have hS : va_S A s.heap s.heap [] := va_S.rf
  have hP : va_P D vwCl [(h, .inr (13, [.ref pe, .ref ne, .ref pa, .ref ro, .int dy])), (pa, .inr (4, [.int mc, .ref el, .int 0]))] s.heap := hP
  have hl := lv_entry ([.ref h, .int p0]) (n := 3) (Nat.le_of_ble_eq_true rfl)
  rw [lg_entry_eq]
  generalize (lg_sl ([.ref h, .int p0]) ++ List.replicate (3 - (lg_sl ([.ref h, .int p0])).length) Slot.unset).toArray = ls at hl ⊢
  have hl : lv_has ls 3 [(0, .ref h), (1, .int p0)] := hl
  refine lv_aload_n hx hb dX8_priority_0 rfl (lv_at hl 0 rfl) ?_
  refine lv_iload_n hx hb dX8_priority_1 rfl (lv_at hl 1 rfl) ?_
  have hPc := hP.sub (ws' := [(h, .inr (13, [.ref pe, .ref ne, .ref pa, .ref ro, .int dy])), (pa, .inr (4, [.int mc, .ref el, .int 0]))]) [0, 1] rfl
  have hDc := hD.sub (ws' := [(h, .inr (13, [.ref pe, .ref ne, .ref pa, .ref ro, .int dy])), (pa, .inr (4, [.int mc, .ref el, .int 0]))]) [0, 1] (by decide) rfl
  have hFc := va_free (wc := [(h, .inr (13, [.ref pe, .ref ne, .ref pa, .ref ro, .int dy])), (pa, .inr (4, [.int mc, .ref el, .int 0]))]) hD hS hA [0, 1] rfl
  refine vx_callq (vx_runV (As := [.int p0]) (rest := []) ⟨hx, hb, hml, hown, hts⟩ (c_X8_paperAt l hst D cy ed s.heap.size h pe ne pa ro dy mc el p0) (cwV 1 hts (zx_GV mm_845 mm_847 mm_8 mm_71 mm_848) rfl rfl rfl (by decide +kernel) ⟨(Nat.le_of_ble_eq_true rfl), (Nat.le_of_ble_eq_true rfl)⟩) ⟨zx_blind, va_recv hK hPc (ci := 13) (q0 := 0) rfl rfl, zx_give hPc hK hDc hS hFc hZ hN⟩ rfl rfl hl.1 rfl (lv_room (Nat.le_of_ble_eq_true rfl)) dX8_priority_2 ⟨(Nat.le_of_ble_eq_true rfl), (Nat.le_of_ble_eq_true rfl)⟩) hS (fun q _ h => hFc q h) hFc (fun q _ h => hFc q h) (fun E9 ce9 q9 _ t H locs ht hvm _ hBX hz1 hk1 hS hce hcv hcl => ?_) (fun r9 u t H locs ht hvm hw hB hz1 hk1 hS => ?_)
  · exact vx_out (fun x9 h9 => absurd h9 (htb x9)) hlocks hce hcv hcl (zx_pass (P := (fun E9 => E9 = "java/lang/IndexOutOfBoundsException")) hS (hBX)) hS.2.2 (Nat.le_of_ble_eq_true rfl) (Nat.le_of_ble_eq_true rfl)
  · exact hw.elim
set_option maxHeartbeats 4000000 in
set_option maxRecDepth 100000 in
theorem c_X8_embargo (l : Launch) (hst : l.stackTraces = false) (D : va_G) (cy : Nat → ClassId) (ed sz : Nat) (h : Nat) (pe : Nat) (ne : Nat) (pa : Nat) (ro : Nat) (dy : Int32) (mc : Int32) (el : Nat) (p0 : Int32) (p1 : Int32) : vx_Met l yX8_embargo wzX8_embargo ({ frames := 8, cells := 1, slots := 6, locals := 123 }) (zx_Pc D cy ed sz [.ref h, .int p0, .int p1] [(h, .inr (13, [.ref pe, .ref ne, .ref pa, .ref ro, .int dy])), (pa, .inr (4, [.int mc, .ref el, .int 0]))]) (va_Qi (fun (_ : Int32) (_ : Unit) => False) (fun (u9 : Unit) (t9 : State) => zx_At D cy (va_A [(h, .inr (13, [.ref pe, .ref ne, .ref pa, .ref ro, .int dy])), (pa, .inr (4, [.int mc, .ref el, .int 0]))] sz) [] t9) (va_A [(h, .inr (13, [.ref pe, .ref ne, .ref pa, .ref ro, .int dy])), (pa, .inr (4, [.int mc, .ref el, .int 0]))] sz)) (zx_X (fun E9 => E9 = "java/lang/IndexOutOfBoundsException") (va_A [(h, .inr (13, [.ref pe, .ref ne, .ref pa, .ref ro, .int dy])), (pa, .inr (4, [.int mc, .ref el, .int 0]))] sz)) 1 6 (va_A [(h, .inr (13, [.ref pe, .ref ne, .ref pa, .ref ro, .int dy])), (pa, .inr (4, [.int mc, .ref el, .int 0]))] sz) := by
  refine vx_ofW (cc := cX8_embargo) (maxL := 5) (ret := (some .int)) (by decide) rfl ?_
  intro p e s m args below meth c s₁ B hml htb hv
  obtain ⟨rfl, hsz, hP, hK, hD0, hZ, hN⟩ := hv
  have hx := B.exec
  have hb := B.bytes
  have hr := B.returns
  have hts := atoms_spec (ws := wzX8_embargo) B.pre
  have hown : s.vm.findClass RX8 = some m.cls := findClass_of_methodNamed B.named
  have hlocks := B.notSynchronized
  subst hsz
  have hD := hD0.self (sz := s.heap.size)
  generalize hAe : va_A [(h, .inr (13, [.ref pe, .ref ne, .ref pa, .ref ro, .int dy])), (pa, .inr (4, [.int mc, .ref el, .int 0]))] s.heap.size = A at hD hZ ⊢
  have hA : ∀ q : Nat, s.heap.size ≤ q → A q := fun q h => by rw [← hAe]; exact Or.inr h
  have hS : va_S A s.heap s.heap [] := va_S.rf
  have hP : va_P D vwCl [(h, .inr (13, [.ref pe, .ref ne, .ref pa, .ref ro, .int dy])), (pa, .inr (4, [.int mc, .ref el, .int 0]))] s.heap := hP
  have hl := lv_entry ([.ref h, .int p0, .int p1]) (n := 5) (Nat.le_of_ble_eq_true rfl)
  rw [lg_entry_eq]
  generalize (lg_sl ([.ref h, .int p0, .int p1]) ++ List.replicate (5 - (lg_sl ([.ref h, .int p0, .int p1])).length) Slot.unset).toArray = ls at hl ⊢
  have hl : lv_has ls 5 [(0, .ref h), (1, .int p0), (2, .int p1)] := hl
  refine lv_aload_n hx hb dX8_embargo_0 rfl (lv_at hl 0 rfl) ?_
  refine lv_iload_n hx hb dX8_embargo_1 rfl (lv_at hl 1 rfl) ?_
  have hPc := hP.sub (ws' := [(h, .inr (13, [.ref pe, .ref ne, .ref pa, .ref ro, .int dy])), (pa, .inr (4, [.int mc, .ref el, .int 0]))]) [0, 1] rfl
  have hDc := hD.sub (ws' := [(h, .inr (13, [.ref pe, .ref ne, .ref pa, .ref ro, .int dy])), (pa, .inr (4, [.int mc, .ref el, .int 0]))]) [0, 1] (by decide) rfl
  have hFc := va_free (wc := [(h, .inr (13, [.ref pe, .ref ne, .ref pa, .ref ro, .int dy])), (pa, .inr (4, [.int mc, .ref el, .int 0]))]) hD hS hA [0, 1] rfl
  refine vx_callq (vx_runV (As := [.int p0]) (rest := []) ⟨hx, hb, hml, hown, hts⟩ (c_X8_paperAt l hst D cy ed s.heap.size h pe ne pa ro dy mc el p0) (cwV 1 hts (zx_GV mm_845 mm_847 mm_8 mm_71 mm_848) rfl rfl rfl (by decide +kernel) ⟨(Nat.le_of_ble_eq_true rfl), (Nat.le_of_ble_eq_true rfl)⟩) ⟨zx_blind, va_recv hK hPc (ci := 13) (q0 := 0) rfl rfl, zx_give hPc hK hDc hS hFc hZ hN⟩ rfl rfl hl.1 rfl (lv_room (Nat.le_of_ble_eq_true rfl)) dX8_embargo_2 ⟨(Nat.le_of_ble_eq_true rfl), (Nat.le_of_ble_eq_true rfl)⟩) hS (fun q _ h => hFc q h) hFc (fun q _ h => hFc q h) (fun E9 ce9 q9 _ t H locs ht hvm _ hBX hz1 hk1 hS hce hcv hcl => ?_) (fun r9 u t H locs ht hvm hw hB hz1 hk1 hS => ?_)
  · exact vx_out (fun x9 h9 => absurd h9 (htb x9)) hlocks hce hcv hcl (zx_pass (P := (fun E9 => E9 = "java/lang/IndexOutOfBoundsException")) hS (hBX)) hS.2.2 (Nat.le_of_ble_eq_true rfl) (Nat.le_of_ble_eq_true rfl)
  · exact hw.elim
set_option maxHeartbeats 4000000 in
set_option maxRecDepth 100000 in
theorem c_X8_publish (l : Launch) (hst : l.stackTraces = false) (D : va_G) (cy : Nat → ClassId) (ed sz : Nat) (h : Nat) (pe : Nat) (ne : Nat) (pa : Nat) (ro : Nat) (dy : Int32) (mc : Int32) (el : Nat) (p0 : Int32) : vx_Met l yX8_publish wzX8_publish ({ frames := 8, cells := 1, slots := 6, locals := 123 }) (zx_Pc D cy ed sz [.ref h, .int p0] [(h, .inr (13, [.ref pe, .ref ne, .ref pa, .ref ro, .int dy])), (pa, .inr (4, [.int mc, .ref el, .int 0]))]) (va_Qi (fun (_ : Int32) (_ : Unit) => False) (fun (u9 : Unit) (t9 : State) => zx_At D cy (va_A [(h, .inr (13, [.ref pe, .ref ne, .ref pa, .ref ro, .int dy])), (pa, .inr (4, [.int mc, .ref el, .int 0]))] sz) [] t9) (va_A [(h, .inr (13, [.ref pe, .ref ne, .ref pa, .ref ro, .int dy])), (pa, .inr (4, [.int mc, .ref el, .int 0]))] sz)) (zx_X (fun E9 => E9 = "java/lang/IndexOutOfBoundsException") (va_A [(h, .inr (13, [.ref pe, .ref ne, .ref pa, .ref ro, .int dy])), (pa, .inr (4, [.int mc, .ref el, .int 0]))] sz)) 1 6 (va_A [(h, .inr (13, [.ref pe, .ref ne, .ref pa, .ref ro, .int dy])), (pa, .inr (4, [.int mc, .ref el, .int 0]))] sz) := by
  refine vx_ofW (cc := cX8_publish) (maxL := 3) (ret := (some .int)) (by decide) rfl ?_
  intro p e s m args below meth c s₁ B hml htb hv
  obtain ⟨rfl, hsz, hP, hK, hD0, hZ, hN⟩ := hv
  have hx := B.exec
  have hb := B.bytes
  have hr := B.returns
  have hts := atoms_spec (ws := wzX8_publish) B.pre
  have hown : s.vm.findClass RX8 = some m.cls := findClass_of_methodNamed B.named
  have hlocks := B.notSynchronized
  subst hsz
  have hD := hD0.self (sz := s.heap.size)
  generalize hAe : va_A [(h, .inr (13, [.ref pe, .ref ne, .ref pa, .ref ro, .int dy])), (pa, .inr (4, [.int mc, .ref el, .int 0]))] s.heap.size = A at hD hZ ⊢
  have hA : ∀ q : Nat, s.heap.size ≤ q → A q := fun q h => by rw [← hAe]; exact Or.inr h
  have hS : va_S A s.heap s.heap [] := va_S.rf
  have hP : va_P D vwCl [(h, .inr (13, [.ref pe, .ref ne, .ref pa, .ref ro, .int dy])), (pa, .inr (4, [.int mc, .ref el, .int 0]))] s.heap := hP
  have hl := lv_entry ([.ref h, .int p0]) (n := 3) (Nat.le_of_ble_eq_true rfl)
  rw [lg_entry_eq]
  generalize (lg_sl ([.ref h, .int p0]) ++ List.replicate (3 - (lg_sl ([.ref h, .int p0])).length) Slot.unset).toArray = ls at hl ⊢
  have hl : lv_has ls 3 [(0, .ref h), (1, .int p0)] := hl
  refine lv_aload_n hx hb dX8_publish_0 rfl (lv_at hl 0 rfl) ?_
  refine lv_iload_n hx hb dX8_publish_1 rfl (lv_at hl 1 rfl) ?_
  have hPc := hP.sub (ws' := [(h, .inr (13, [.ref pe, .ref ne, .ref pa, .ref ro, .int dy])), (pa, .inr (4, [.int mc, .ref el, .int 0]))]) [0, 1] rfl
  have hDc := hD.sub (ws' := [(h, .inr (13, [.ref pe, .ref ne, .ref pa, .ref ro, .int dy])), (pa, .inr (4, [.int mc, .ref el, .int 0]))]) [0, 1] (by decide) rfl
  have hFc := va_free (wc := [(h, .inr (13, [.ref pe, .ref ne, .ref pa, .ref ro, .int dy])), (pa, .inr (4, [.int mc, .ref el, .int 0]))]) hD hS hA [0, 1] rfl
  refine vx_callq (vx_runV (As := [.int p0]) (rest := []) ⟨hx, hb, hml, hown, hts⟩ (c_X8_paperAt l hst D cy ed s.heap.size h pe ne pa ro dy mc el p0) (cwV 1 hts (zx_GV mm_845 mm_847 mm_8 mm_71 mm_848) rfl rfl rfl (by decide +kernel) ⟨(Nat.le_of_ble_eq_true rfl), (Nat.le_of_ble_eq_true rfl)⟩) ⟨zx_blind, va_recv hK hPc (ci := 13) (q0 := 0) rfl rfl, zx_give hPc hK hDc hS hFc hZ hN⟩ rfl rfl hl.1 rfl (lv_room (Nat.le_of_ble_eq_true rfl)) dX8_publish_2 ⟨(Nat.le_of_ble_eq_true rfl), (Nat.le_of_ble_eq_true rfl)⟩) hS (fun q _ h => hFc q h) hFc (fun q _ h => hFc q h) (fun E9 ce9 q9 _ t H locs ht hvm _ hBX hz1 hk1 hS hce hcv hcl => ?_) (fun r9 u t H locs ht hvm hw hB hz1 hk1 hS => ?_)
  · exact vx_out (fun x9 h9 => absurd h9 (htb x9)) hlocks hce hcv hcl (zx_pass (P := (fun E9 => E9 = "java/lang/IndexOutOfBoundsException")) hS (hBX)) hS.2.2 (Nat.le_of_ble_eq_true rfl) (Nat.le_of_ble_eq_true rfl)
  · exact hw.elim
set_option maxHeartbeats 4000000 in
set_option maxRecDepth 100000 in
theorem c_X8_cite (l : Launch) (hst : l.stackTraces = false) (D : va_G) (cy : Nat → ClassId) (ed sz : Nat) (h : Nat) (pe : Nat) (ne : Nat) (pa : Nat) (ro : Nat) (dy : Int32) (mc : Int32) (el : Nat) (p0 : Int32) (p1 : Int32) : vx_Met l yX8_cite wzX8_cite ({ frames := 8, cells := 1, slots := 6, locals := 123 }) (zx_Pc D cy ed sz [.ref h, .int p0, .int p1] [(h, .inr (13, [.ref pe, .ref ne, .ref pa, .ref ro, .int dy])), (pa, .inr (4, [.int mc, .ref el, .int 0]))]) (va_Qi (fun (_ : Int32) (_ : Unit) => False) (fun (u9 : Unit) (t9 : State) => zx_At D cy (va_A [(h, .inr (13, [.ref pe, .ref ne, .ref pa, .ref ro, .int dy])), (pa, .inr (4, [.int mc, .ref el, .int 0]))] sz) [] t9) (va_A [(h, .inr (13, [.ref pe, .ref ne, .ref pa, .ref ro, .int dy])), (pa, .inr (4, [.int mc, .ref el, .int 0]))] sz)) (zx_X (fun E9 => E9 = "java/lang/IndexOutOfBoundsException") (va_A [(h, .inr (13, [.ref pe, .ref ne, .ref pa, .ref ro, .int dy])), (pa, .inr (4, [.int mc, .ref el, .int 0]))] sz)) 1 6 (va_A [(h, .inr (13, [.ref pe, .ref ne, .ref pa, .ref ro, .int dy])), (pa, .inr (4, [.int mc, .ref el, .int 0]))] sz) := by
  refine vx_ofW (cc := cX8_cite) (maxL := 4) (ret := (some .int)) (by decide) rfl ?_
  intro p e s m args below meth c s₁ B hml htb hv
  obtain ⟨rfl, hsz, hP, hK, hD0, hZ, hN⟩ := hv
  have hx := B.exec
  have hb := B.bytes
  have hr := B.returns
  have hts := atoms_spec (ws := wzX8_cite) B.pre
  have hown : s.vm.findClass RX8 = some m.cls := findClass_of_methodNamed B.named
  have hlocks := B.notSynchronized
  subst hsz
  have hD := hD0.self (sz := s.heap.size)
  generalize hAe : va_A [(h, .inr (13, [.ref pe, .ref ne, .ref pa, .ref ro, .int dy])), (pa, .inr (4, [.int mc, .ref el, .int 0]))] s.heap.size = A at hD hZ ⊢
  have hA : ∀ q : Nat, s.heap.size ≤ q → A q := fun q h => by rw [← hAe]; exact Or.inr h
  have hS : va_S A s.heap s.heap [] := va_S.rf
  have hP : va_P D vwCl [(h, .inr (13, [.ref pe, .ref ne, .ref pa, .ref ro, .int dy])), (pa, .inr (4, [.int mc, .ref el, .int 0]))] s.heap := hP
  have hl := lv_entry ([.ref h, .int p0, .int p1]) (n := 4) (Nat.le_of_ble_eq_true rfl)
  rw [lg_entry_eq]
  generalize (lg_sl ([.ref h, .int p0, .int p1]) ++ List.replicate (4 - (lg_sl ([.ref h, .int p0, .int p1])).length) Slot.unset).toArray = ls at hl ⊢
  have hl : lv_has ls 4 [(0, .ref h), (1, .int p0), (2, .int p1)] := hl
  refine lv_aload_n hx hb dX8_cite_0 rfl (lv_at hl 0 rfl) ?_
  refine lv_iload_n hx hb dX8_cite_1 rfl (lv_at hl 1 rfl) ?_
  have hPc := hP.sub (ws' := [(h, .inr (13, [.ref pe, .ref ne, .ref pa, .ref ro, .int dy])), (pa, .inr (4, [.int mc, .ref el, .int 0]))]) [0, 1] rfl
  have hDc := hD.sub (ws' := [(h, .inr (13, [.ref pe, .ref ne, .ref pa, .ref ro, .int dy])), (pa, .inr (4, [.int mc, .ref el, .int 0]))]) [0, 1] (by decide) rfl
  have hFc := va_free (wc := [(h, .inr (13, [.ref pe, .ref ne, .ref pa, .ref ro, .int dy])), (pa, .inr (4, [.int mc, .ref el, .int 0]))]) hD hS hA [0, 1] rfl
  refine vx_callq (vx_runV (As := [.int p0]) (rest := []) ⟨hx, hb, hml, hown, hts⟩ (c_X8_paperAt l hst D cy ed s.heap.size h pe ne pa ro dy mc el p0) (cwV 1 hts (zx_GV mm_845 mm_847 mm_8 mm_71 mm_848) rfl rfl rfl (by decide +kernel) ⟨(Nat.le_of_ble_eq_true rfl), (Nat.le_of_ble_eq_true rfl)⟩) ⟨zx_blind, va_recv hK hPc (ci := 13) (q0 := 0) rfl rfl, zx_give hPc hK hDc hS hFc hZ hN⟩ rfl rfl hl.1 rfl (lv_room (Nat.le_of_ble_eq_true rfl)) dX8_cite_2 ⟨(Nat.le_of_ble_eq_true rfl), (Nat.le_of_ble_eq_true rfl)⟩) hS (fun q _ h => hFc q h) hFc (fun q _ h => hFc q h) (fun E9 ce9 q9 _ t H locs ht hvm _ hBX hz1 hk1 hS hce hcv hcl => ?_) (fun r9 u t H locs ht hvm hw hB hz1 hk1 hS => ?_)
  · exact vx_out (fun x9 h9 => absurd h9 (htb x9)) hlocks hce hcv hcl (zx_pass (P := (fun E9 => E9 = "java/lang/IndexOutOfBoundsException")) hS (hBX)) hS.2.2 (Nat.le_of_ble_eq_true rfl) (Nat.le_of_ble_eq_true rfl)
  · exact hw.elim
set_option maxHeartbeats 4000000 in
set_option maxRecDepth 100000 in
theorem c_X8_retract (l : Launch) (hst : l.stackTraces = false) (D : va_G) (cy : Nat → ClassId) (ed sz : Nat) (h : Nat) (pe : Nat) (ne : Nat) (pa : Nat) (ro : Nat) (dy : Int32) (mc : Int32) (el : Nat) (p0 : Int32) : vx_Met l yX8_retract wzX8_retract ({ frames := 8, cells := 1, slots := 6, locals := 123 }) (zx_Pc D cy ed sz [.ref h, .int p0] [(h, .inr (13, [.ref pe, .ref ne, .ref pa, .ref ro, .int dy])), (pa, .inr (4, [.int mc, .ref el, .int 0]))]) (va_Qi (fun (_ : Int32) (_ : Unit) => False) (fun (u9 : Unit) (t9 : State) => zx_At D cy (va_A [(h, .inr (13, [.ref pe, .ref ne, .ref pa, .ref ro, .int dy])), (pa, .inr (4, [.int mc, .ref el, .int 0]))] sz) [] t9) (va_A [(h, .inr (13, [.ref pe, .ref ne, .ref pa, .ref ro, .int dy])), (pa, .inr (4, [.int mc, .ref el, .int 0]))] sz)) (zx_X (fun E9 => E9 = "java/lang/IndexOutOfBoundsException") (va_A [(h, .inr (13, [.ref pe, .ref ne, .ref pa, .ref ro, .int dy])), (pa, .inr (4, [.int mc, .ref el, .int 0]))] sz)) 1 6 (va_A [(h, .inr (13, [.ref pe, .ref ne, .ref pa, .ref ro, .int dy])), (pa, .inr (4, [.int mc, .ref el, .int 0]))] sz) := by
  refine vx_ofW (cc := cX8_retract) (maxL := 3) (ret := (some .int)) (by decide) rfl ?_
  intro p e s m args below meth c s₁ B hml htb hv
  obtain ⟨rfl, hsz, hP, hK, hD0, hZ, hN⟩ := hv
  have hx := B.exec
  have hb := B.bytes
  have hr := B.returns
  have hts := atoms_spec (ws := wzX8_retract) B.pre
  have hown : s.vm.findClass RX8 = some m.cls := findClass_of_methodNamed B.named
  have hlocks := B.notSynchronized
  subst hsz
  have hD := hD0.self (sz := s.heap.size)
  generalize hAe : va_A [(h, .inr (13, [.ref pe, .ref ne, .ref pa, .ref ro, .int dy])), (pa, .inr (4, [.int mc, .ref el, .int 0]))] s.heap.size = A at hD hZ ⊢
  have hA : ∀ q : Nat, s.heap.size ≤ q → A q := fun q h => by rw [← hAe]; exact Or.inr h
  have hS : va_S A s.heap s.heap [] := va_S.rf
  have hP : va_P D vwCl [(h, .inr (13, [.ref pe, .ref ne, .ref pa, .ref ro, .int dy])), (pa, .inr (4, [.int mc, .ref el, .int 0]))] s.heap := hP
  have hl := lv_entry ([.ref h, .int p0]) (n := 3) (Nat.le_of_ble_eq_true rfl)
  rw [lg_entry_eq]
  generalize (lg_sl ([.ref h, .int p0]) ++ List.replicate (3 - (lg_sl ([.ref h, .int p0])).length) Slot.unset).toArray = ls at hl ⊢
  have hl : lv_has ls 3 [(0, .ref h), (1, .int p0)] := hl
  refine lv_aload_n hx hb dX8_retract_0 rfl (lv_at hl 0 rfl) ?_
  refine lv_iload_n hx hb dX8_retract_1 rfl (lv_at hl 1 rfl) ?_
  have hPc := hP.sub (ws' := [(h, .inr (13, [.ref pe, .ref ne, .ref pa, .ref ro, .int dy])), (pa, .inr (4, [.int mc, .ref el, .int 0]))]) [0, 1] rfl
  have hDc := hD.sub (ws' := [(h, .inr (13, [.ref pe, .ref ne, .ref pa, .ref ro, .int dy])), (pa, .inr (4, [.int mc, .ref el, .int 0]))]) [0, 1] (by decide) rfl
  have hFc := va_free (wc := [(h, .inr (13, [.ref pe, .ref ne, .ref pa, .ref ro, .int dy])), (pa, .inr (4, [.int mc, .ref el, .int 0]))]) hD hS hA [0, 1] rfl
  refine vx_callq (vx_runV (As := [.int p0]) (rest := []) ⟨hx, hb, hml, hown, hts⟩ (c_X8_paperAt l hst D cy ed s.heap.size h pe ne pa ro dy mc el p0) (cwV 1 hts (zx_GV mm_845 mm_847 mm_8 mm_71 mm_848) rfl rfl rfl (by decide +kernel) ⟨(Nat.le_of_ble_eq_true rfl), (Nat.le_of_ble_eq_true rfl)⟩) ⟨zx_blind, va_recv hK hPc (ci := 13) (q0 := 0) rfl rfl, zx_give hPc hK hDc hS hFc hZ hN⟩ rfl rfl hl.1 rfl (lv_room (Nat.le_of_ble_eq_true rfl)) dX8_retract_2 ⟨(Nat.le_of_ble_eq_true rfl), (Nat.le_of_ble_eq_true rfl)⟩) hS (fun q _ h => hFc q h) hFc (fun q _ h => hFc q h) (fun E9 ce9 q9 _ t H locs ht hvm _ hBX hz1 hk1 hS hce hcv hcl => ?_) (fun r9 u t H locs ht hvm hw hB hz1 hk1 hS => ?_)
  · exact vx_out (fun x9 h9 => absurd h9 (htb x9)) hlocks hce hcv hcl (zx_pass (P := (fun E9 => E9 = "java/lang/IndexOutOfBoundsException")) hS (hBX)) hS.2.2 (Nat.le_of_ble_eq_true rfl) (Nat.le_of_ble_eq_true rfl)
  · exact hw.elim
set_option maxHeartbeats 4000000 in
set_option maxRecDepth 100000 in
theorem c_X8_hasConcern (l : Launch) (hst : l.stackTraces = false) (D : va_G) (cy : Nat → ClassId) (ed sz : Nat) (h : Nat) (pe : Nat) (ne : Nat) (pa : Nat) (ro : Nat) (dy : Int32) (mc : Int32) (el : Nat) (p0 : Int32) : vx_Met l yX8_hasConcern wzX8_hasConcern ({ frames := 8, cells := 1, slots := 6, locals := 123 }) (zx_Pc D cy ed sz [.ref h, .int p0] [(h, .inr (13, [.ref pe, .ref ne, .ref pa, .ref ro, .int dy])), (pa, .inr (4, [.int mc, .ref el, .int 0]))]) (va_Qi (fun (_ : Int32) (_ : Unit) => False) (fun (u9 : Unit) (t9 : State) => zx_At D cy (va_A [(h, .inr (13, [.ref pe, .ref ne, .ref pa, .ref ro, .int dy])), (pa, .inr (4, [.int mc, .ref el, .int 0]))] sz) [] t9) (va_A [(h, .inr (13, [.ref pe, .ref ne, .ref pa, .ref ro, .int dy])), (pa, .inr (4, [.int mc, .ref el, .int 0]))] sz)) (zx_X (fun E9 => E9 = "java/lang/IndexOutOfBoundsException") (va_A [(h, .inr (13, [.ref pe, .ref ne, .ref pa, .ref ro, .int dy])), (pa, .inr (4, [.int mc, .ref el, .int 0]))] sz)) 1 6 (va_A [(h, .inr (13, [.ref pe, .ref ne, .ref pa, .ref ro, .int dy])), (pa, .inr (4, [.int mc, .ref el, .int 0]))] sz) := by
  refine vx_ofW (cc := cX8_hasConcern) (maxL := 3) (ret := (some .boolean)) (by decide) rfl ?_
  intro p e s m args below meth c s₁ B hml htb hv
  obtain ⟨rfl, hsz, hP, hK, hD0, hZ, hN⟩ := hv
  have hx := B.exec
  have hb := B.bytes
  have hr := B.returns
  have hts := atoms_spec (ws := wzX8_hasConcern) B.pre
  have hown : s.vm.findClass RX8 = some m.cls := findClass_of_methodNamed B.named
  have hlocks := B.notSynchronized
  subst hsz
  have hD := hD0.self (sz := s.heap.size)
  generalize hAe : va_A [(h, .inr (13, [.ref pe, .ref ne, .ref pa, .ref ro, .int dy])), (pa, .inr (4, [.int mc, .ref el, .int 0]))] s.heap.size = A at hD hZ ⊢
  have hA : ∀ q : Nat, s.heap.size ≤ q → A q := fun q h => by rw [← hAe]; exact Or.inr h
  have hS : va_S A s.heap s.heap [] := va_S.rf
  have hP : va_P D vwCl [(h, .inr (13, [.ref pe, .ref ne, .ref pa, .ref ro, .int dy])), (pa, .inr (4, [.int mc, .ref el, .int 0]))] s.heap := hP
  have hl := lv_entry ([.ref h, .int p0]) (n := 3) (Nat.le_of_ble_eq_true rfl)
  rw [lg_entry_eq]
  generalize (lg_sl ([.ref h, .int p0]) ++ List.replicate (3 - (lg_sl ([.ref h, .int p0])).length) Slot.unset).toArray = ls at hl ⊢
  have hl : lv_has ls 3 [(0, .ref h), (1, .int p0)] := hl
  refine lv_aload_n hx hb dX8_hasConcern_0 rfl (lv_at hl 0 rfl) ?_
  refine lv_iload_n hx hb dX8_hasConcern_1 rfl (lv_at hl 1 rfl) ?_
  have hPc := hP.sub (ws' := [(h, .inr (13, [.ref pe, .ref ne, .ref pa, .ref ro, .int dy])), (pa, .inr (4, [.int mc, .ref el, .int 0]))]) [0, 1] rfl
  have hDc := hD.sub (ws' := [(h, .inr (13, [.ref pe, .ref ne, .ref pa, .ref ro, .int dy])), (pa, .inr (4, [.int mc, .ref el, .int 0]))]) [0, 1] (by decide) rfl
  have hFc := va_free (wc := [(h, .inr (13, [.ref pe, .ref ne, .ref pa, .ref ro, .int dy])), (pa, .inr (4, [.int mc, .ref el, .int 0]))]) hD hS hA [0, 1] rfl
  refine vx_callq (vx_runV (As := [.int p0]) (rest := []) ⟨hx, hb, hml, hown, hts⟩ (c_X8_paperAt l hst D cy ed s.heap.size h pe ne pa ro dy mc el p0) (cwV 1 hts (zx_GV mm_845 mm_847 mm_8 mm_71 mm_848) rfl rfl rfl (by decide +kernel) ⟨(Nat.le_of_ble_eq_true rfl), (Nat.le_of_ble_eq_true rfl)⟩) ⟨zx_blind, va_recv hK hPc (ci := 13) (q0 := 0) rfl rfl, zx_give hPc hK hDc hS hFc hZ hN⟩ rfl rfl hl.1 rfl (lv_room (Nat.le_of_ble_eq_true rfl)) dX8_hasConcern_2 ⟨(Nat.le_of_ble_eq_true rfl), (Nat.le_of_ble_eq_true rfl)⟩) hS (fun q _ h => hFc q h) hFc (fun q _ h => hFc q h) (fun E9 ce9 q9 _ t H locs ht hvm _ hBX hz1 hk1 hS hce hcv hcl => ?_) (fun r9 u t H locs ht hvm hw hB hz1 hk1 hS => ?_)
  · exact vx_out (fun x9 h9 => absurd h9 (htb x9)) hlocks hce hcv hcl (zx_pass (P := (fun E9 => E9 = "java/lang/IndexOutOfBoundsException")) hS (hBX)) hS.2.2 (Nat.le_of_ble_eq_true rfl) (Nat.le_of_ble_eq_true rfl)
  · exact hw.elim
set_option maxHeartbeats 4000000 in
set_option maxRecDepth 100000 in
theorem c_X8_step (l : Launch) (hst : l.stackTraces = false) (D : va_G) (cy : Nat → ClassId) (ed sz : Nat) (h : Nat) (pe : Nat) (ne : Nat) (pa : Nat) (ro : Nat) (dy : Int32) (mc : Int32) (el : Nat) (p0 : Int32) (p1 : Int32) (p2 : Int32) : vx_Met l yX8_step wzX8_step ({ frames := 8, cells := 1, slots := 6, locals := 123 }) (zx_Pc D cy ed sz [.ref h, .int p0, .int p1, .int p2] [(h, .inr (13, [.ref pe, .ref ne, .ref pa, .ref ro, .int dy])), (pa, .inr (4, [.int mc, .ref el, .int 0]))]) (va_Qi (fun (_ : Int32) (_ : Unit) => False) (fun (u9 : Unit) (t9 : State) => zx_At D cy (va_A [(h, .inr (13, [.ref pe, .ref ne, .ref pa, .ref ro, .int dy])), (pa, .inr (4, [.int mc, .ref el, .int 0]))] sz) [] t9) (va_A [(h, .inr (13, [.ref pe, .ref ne, .ref pa, .ref ro, .int dy])), (pa, .inr (4, [.int mc, .ref el, .int 0]))] sz)) (zx_X (fun E9 => E9 = "java/lang/IndexOutOfBoundsException") (va_A [(h, .inr (13, [.ref pe, .ref ne, .ref pa, .ref ro, .int dy])), (pa, .inr (4, [.int mc, .ref el, .int 0]))] sz)) 1 6 (va_A [(h, .inr (13, [.ref pe, .ref ne, .ref pa, .ref ro, .int dy])), (pa, .inr (4, [.int mc, .ref el, .int 0]))] sz) := by
  refine vx_ofW (cc := cX8_step) (maxL := 5) (ret := (some .int)) (by decide) rfl ?_
  intro p e s m args below meth c s₁ B hml htb hv
  obtain ⟨rfl, hsz, hP, hK, hD0, hZ, hN⟩ := hv
  have hx := B.exec
  have hb := B.bytes
  have hr := B.returns
  have hts := atoms_spec (ws := wzX8_step) B.pre
  have hown : s.vm.findClass RX8 = some m.cls := findClass_of_methodNamed B.named
  have hlocks := B.notSynchronized
  subst hsz
  have hD := hD0.self (sz := s.heap.size)
  generalize hAe : va_A [(h, .inr (13, [.ref pe, .ref ne, .ref pa, .ref ro, .int dy])), (pa, .inr (4, [.int mc, .ref el, .int 0]))] s.heap.size = A at hD hZ ⊢
  have hA : ∀ q : Nat, s.heap.size ≤ q → A q := fun q h => by rw [← hAe]; exact Or.inr h
  have hS : va_S A s.heap s.heap [] := va_S.rf
  have hP : va_P D vwCl [(h, .inr (13, [.ref pe, .ref ne, .ref pa, .ref ro, .int dy])), (pa, .inr (4, [.int mc, .ref el, .int 0]))] s.heap := hP
  have hl := lv_entry ([.ref h, .int p0, .int p1, .int p2]) (n := 5) (Nat.le_of_ble_eq_true rfl)
  rw [lg_entry_eq]
  generalize (lg_sl ([.ref h, .int p0, .int p1, .int p2]) ++ List.replicate (5 - (lg_sl ([.ref h, .int p0, .int p1, .int p2])).length) Slot.unset).toArray = ls at hl ⊢
  have hl : lv_has ls 5 [(0, .ref h), (1, .int p0), (2, .int p1), (3, .int p2)] := hl
  refine lv_aload_n hx hb dX8_step_0 rfl (lv_at hl 0 rfl) ?_
  refine lv_iload_n hx hb dX8_step_1 rfl (lv_at hl 1 rfl) ?_
  have hPc := hP.sub (ws' := [(h, .inr (13, [.ref pe, .ref ne, .ref pa, .ref ro, .int dy])), (pa, .inr (4, [.int mc, .ref el, .int 0]))]) [0, 1] rfl
  have hDc := hD.sub (ws' := [(h, .inr (13, [.ref pe, .ref ne, .ref pa, .ref ro, .int dy])), (pa, .inr (4, [.int mc, .ref el, .int 0]))]) [0, 1] (by decide) rfl
  have hFc := va_free (wc := [(h, .inr (13, [.ref pe, .ref ne, .ref pa, .ref ro, .int dy])), (pa, .inr (4, [.int mc, .ref el, .int 0]))]) hD hS hA [0, 1] rfl
  refine vx_callq (vx_runV (As := [.int p0]) (rest := []) ⟨hx, hb, hml, hown, hts⟩ (c_X8_paperAt l hst D cy ed s.heap.size h pe ne pa ro dy mc el p0) (cwV 1 hts (zx_GV mm_845 mm_847 mm_8 mm_71 mm_848) rfl rfl rfl (by decide +kernel) ⟨(Nat.le_of_ble_eq_true rfl), (Nat.le_of_ble_eq_true rfl)⟩) ⟨zx_blind, va_recv hK hPc (ci := 13) (q0 := 0) rfl rfl, zx_give hPc hK hDc hS hFc hZ hN⟩ rfl rfl hl.1 rfl (lv_room (Nat.le_of_ble_eq_true rfl)) dX8_step_2 ⟨(Nat.le_of_ble_eq_true rfl), (Nat.le_of_ble_eq_true rfl)⟩) hS (fun q _ h => hFc q h) hFc (fun q _ h => hFc q h) (fun E9 ce9 q9 _ t H locs ht hvm _ hBX hz1 hk1 hS hce hcv hcl => ?_) (fun r9 u t H locs ht hvm hw hB hz1 hk1 hS => ?_)
  · exact vx_out (fun x9 h9 => absurd h9 (htb x9)) hlocks hce hcv hcl (zx_pass (P := (fun E9 => E9 = "java/lang/IndexOutOfBoundsException")) hS (hBX)) hS.2.2 (Nat.le_of_ble_eq_true rfl) (Nat.le_of_ble_eq_true rfl)
  · exact hw.elim
set_option maxHeartbeats 4000000 in
set_option maxRecDepth 100000 in
theorem c_X8_claim (l : Launch) (hst : l.stackTraces = false) (D : va_G) (cy : Nat → ClassId) (ed sz : Nat) (h : Nat) (pe : Nat) (ne : Nat) (pa : Nat) (ro : Nat) (dy : Int32) (mc : Int32) (el : Nat) (p0 : Int32) (p1 : Int32) : vx_Met l yX8_claim wzX8_claim ({ frames := 8, cells := 1, slots := 6, locals := 123 }) (zx_Pc D cy ed sz [.ref h, .int p0, .int p1] [(h, .inr (13, [.ref pe, .ref ne, .ref pa, .ref ro, .int dy])), (pa, .inr (4, [.int mc, .ref el, .int 0]))]) (va_Qi (fun (_ : Int32) (_ : Unit) => False) (fun (u9 : Unit) (t9 : State) => zx_At D cy (va_A [(h, .inr (13, [.ref pe, .ref ne, .ref pa, .ref ro, .int dy])), (pa, .inr (4, [.int mc, .ref el, .int 0]))] sz) [] t9) (va_A [(h, .inr (13, [.ref pe, .ref ne, .ref pa, .ref ro, .int dy])), (pa, .inr (4, [.int mc, .ref el, .int 0]))] sz)) (zx_X (fun E9 => E9 = "java/lang/IndexOutOfBoundsException") (va_A [(h, .inr (13, [.ref pe, .ref ne, .ref pa, .ref ro, .int dy])), (pa, .inr (4, [.int mc, .ref el, .int 0]))] sz)) 1 6 (va_A [(h, .inr (13, [.ref pe, .ref ne, .ref pa, .ref ro, .int dy])), (pa, .inr (4, [.int mc, .ref el, .int 0]))] sz) := by
  refine vx_ofW (cc := cX8_claim) (maxL := 5) (ret := (some .int)) (by decide) rfl ?_
  intro p e s m args below meth c s₁ B hml htb hv
  obtain ⟨rfl, hsz, hP, hK, hD0, hZ, hN⟩ := hv
  have hx := B.exec
  have hb := B.bytes
  have hr := B.returns
  have hts := atoms_spec (ws := wzX8_claim) B.pre
  have hown : s.vm.findClass RX8 = some m.cls := findClass_of_methodNamed B.named
  have hlocks := B.notSynchronized
  subst hsz
  have hD := hD0.self (sz := s.heap.size)
  generalize hAe : va_A [(h, .inr (13, [.ref pe, .ref ne, .ref pa, .ref ro, .int dy])), (pa, .inr (4, [.int mc, .ref el, .int 0]))] s.heap.size = A at hD hZ ⊢
  have hA : ∀ q : Nat, s.heap.size ≤ q → A q := fun q h => by rw [← hAe]; exact Or.inr h
  have hS : va_S A s.heap s.heap [] := va_S.rf
  have hP : va_P D vwCl [(h, .inr (13, [.ref pe, .ref ne, .ref pa, .ref ro, .int dy])), (pa, .inr (4, [.int mc, .ref el, .int 0]))] s.heap := hP
  have hl := lv_entry ([.ref h, .int p0, .int p1]) (n := 5) (Nat.le_of_ble_eq_true rfl)
  rw [lg_entry_eq]
  generalize (lg_sl ([.ref h, .int p0, .int p1]) ++ List.replicate (5 - (lg_sl ([.ref h, .int p0, .int p1])).length) Slot.unset).toArray = ls at hl ⊢
  have hl : lv_has ls 5 [(0, .ref h), (1, .int p0), (2, .int p1)] := hl
  refine lv_aload_n hx hb dX8_claim_0 rfl (lv_at hl 0 rfl) ?_
  refine lv_iload_n hx hb dX8_claim_1 rfl (lv_at hl 1 rfl) ?_
  have hPc := hP.sub (ws' := [(h, .inr (13, [.ref pe, .ref ne, .ref pa, .ref ro, .int dy])), (pa, .inr (4, [.int mc, .ref el, .int 0]))]) [0, 1] rfl
  have hDc := hD.sub (ws' := [(h, .inr (13, [.ref pe, .ref ne, .ref pa, .ref ro, .int dy])), (pa, .inr (4, [.int mc, .ref el, .int 0]))]) [0, 1] (by decide) rfl
  have hFc := va_free (wc := [(h, .inr (13, [.ref pe, .ref ne, .ref pa, .ref ro, .int dy])), (pa, .inr (4, [.int mc, .ref el, .int 0]))]) hD hS hA [0, 1] rfl
  refine vx_callq (vx_runV (As := [.int p0]) (rest := []) ⟨hx, hb, hml, hown, hts⟩ (c_X8_paperAt l hst D cy ed s.heap.size h pe ne pa ro dy mc el p0) (cwV 1 hts (zx_GV mm_845 mm_847 mm_8 mm_71 mm_848) rfl rfl rfl (by decide +kernel) ⟨(Nat.le_of_ble_eq_true rfl), (Nat.le_of_ble_eq_true rfl)⟩) ⟨zx_blind, va_recv hK hPc (ci := 13) (q0 := 0) rfl rfl, zx_give hPc hK hDc hS hFc hZ hN⟩ rfl rfl hl.1 rfl (lv_room (Nat.le_of_ble_eq_true rfl)) dX8_claim_2 ⟨(Nat.le_of_ble_eq_true rfl), (Nat.le_of_ble_eq_true rfl)⟩) hS (fun q _ h => hFc q h) hFc (fun q _ h => hFc q h) (fun E9 ce9 q9 _ t H locs ht hvm _ hBX hz1 hk1 hS hce hcv hcl => ?_) (fun r9 u t H locs ht hvm hw hB hz1 hk1 hS => ?_)
  · exact vx_out (fun x9 h9 => absurd h9 (htb x9)) hlocks hce hcv hcl (zx_pass (P := (fun E9 => E9 = "java/lang/IndexOutOfBoundsException")) hS (hBX)) hS.2.2 (Nat.le_of_ble_eq_true rfl) (Nat.le_of_ble_eq_true rfl)
  · exact hw.elim
set_option maxHeartbeats 4000000 in
set_option maxRecDepth 100000 in
theorem c_X8_isRight (l : Launch) (hst : l.stackTraces = false) (D : va_G) (cy : Nat → ClassId) (ed sz : Nat) (h : Nat) (pe : Nat) (ne : Nat) (pa : Nat) (ro : Nat) (dy : Int32) (mc : Int32) (el : Nat) (p0 : Int32) : vx_Met l yX8_isRight wzX8_isRight ({ frames := 8, cells := 1, slots := 6, locals := 123 }) (zx_Pc D cy ed sz [.ref h, .int p0] [(h, .inr (13, [.ref pe, .ref ne, .ref pa, .ref ro, .int dy])), (pa, .inr (4, [.int mc, .ref el, .int 0]))]) (va_Qi (fun (_ : Int32) (_ : Unit) => False) (fun (u9 : Unit) (t9 : State) => zx_At D cy (va_A [(h, .inr (13, [.ref pe, .ref ne, .ref pa, .ref ro, .int dy])), (pa, .inr (4, [.int mc, .ref el, .int 0]))] sz) [] t9) (va_A [(h, .inr (13, [.ref pe, .ref ne, .ref pa, .ref ro, .int dy])), (pa, .inr (4, [.int mc, .ref el, .int 0]))] sz)) (zx_X (fun E9 => E9 = "java/lang/IndexOutOfBoundsException") (va_A [(h, .inr (13, [.ref pe, .ref ne, .ref pa, .ref ro, .int dy])), (pa, .inr (4, [.int mc, .ref el, .int 0]))] sz)) 1 6 (va_A [(h, .inr (13, [.ref pe, .ref ne, .ref pa, .ref ro, .int dy])), (pa, .inr (4, [.int mc, .ref el, .int 0]))] sz) := by
  refine vx_ofW (cc := cX8_isRight) (maxL := 3) (ret := (some .boolean)) (by decide) rfl ?_
  intro p e s m args below meth c s₁ B hml htb hv
  obtain ⟨rfl, hsz, hP, hK, hD0, hZ, hN⟩ := hv
  have hx := B.exec
  have hb := B.bytes
  have hr := B.returns
  have hts := atoms_spec (ws := wzX8_isRight) B.pre
  have hown : s.vm.findClass RX8 = some m.cls := findClass_of_methodNamed B.named
  have hlocks := B.notSynchronized
  subst hsz
  have hD := hD0.self (sz := s.heap.size)
  generalize hAe : va_A [(h, .inr (13, [.ref pe, .ref ne, .ref pa, .ref ro, .int dy])), (pa, .inr (4, [.int mc, .ref el, .int 0]))] s.heap.size = A at hD hZ ⊢
  have hA : ∀ q : Nat, s.heap.size ≤ q → A q := fun q h => by rw [← hAe]; exact Or.inr h
  have hS : va_S A s.heap s.heap [] := va_S.rf
  have hP : va_P D vwCl [(h, .inr (13, [.ref pe, .ref ne, .ref pa, .ref ro, .int dy])), (pa, .inr (4, [.int mc, .ref el, .int 0]))] s.heap := hP
  have hl := lv_entry ([.ref h, .int p0]) (n := 3) (Nat.le_of_ble_eq_true rfl)
  rw [lg_entry_eq]
  generalize (lg_sl ([.ref h, .int p0]) ++ List.replicate (3 - (lg_sl ([.ref h, .int p0])).length) Slot.unset).toArray = ls at hl ⊢
  have hl : lv_has ls 3 [(0, .ref h), (1, .int p0)] := hl
  refine lv_aload_n hx hb dX8_isRight_0 rfl (lv_at hl 0 rfl) ?_
  refine lv_iload_n hx hb dX8_isRight_1 rfl (lv_at hl 1 rfl) ?_
  have hPc := hP.sub (ws' := [(h, .inr (13, [.ref pe, .ref ne, .ref pa, .ref ro, .int dy])), (pa, .inr (4, [.int mc, .ref el, .int 0]))]) [0, 1] rfl
  have hDc := hD.sub (ws' := [(h, .inr (13, [.ref pe, .ref ne, .ref pa, .ref ro, .int dy])), (pa, .inr (4, [.int mc, .ref el, .int 0]))]) [0, 1] (by decide) rfl
  have hFc := va_free (wc := [(h, .inr (13, [.ref pe, .ref ne, .ref pa, .ref ro, .int dy])), (pa, .inr (4, [.int mc, .ref el, .int 0]))]) hD hS hA [0, 1] rfl
  refine vx_callq (vx_runV (As := [.int p0]) (rest := []) ⟨hx, hb, hml, hown, hts⟩ (c_X8_paperAt l hst D cy ed s.heap.size h pe ne pa ro dy mc el p0) (cwV 1 hts (zx_GV mm_845 mm_847 mm_8 mm_71 mm_848) rfl rfl rfl (by decide +kernel) ⟨(Nat.le_of_ble_eq_true rfl), (Nat.le_of_ble_eq_true rfl)⟩) ⟨zx_blind, va_recv hK hPc (ci := 13) (q0 := 0) rfl rfl, zx_give hPc hK hDc hS hFc hZ hN⟩ rfl rfl hl.1 rfl (lv_room (Nat.le_of_ble_eq_true rfl)) dX8_isRight_2 ⟨(Nat.le_of_ble_eq_true rfl), (Nat.le_of_ble_eq_true rfl)⟩) hS (fun q _ h => hFc q h) hFc (fun q _ h => hFc q h) (fun E9 ce9 q9 _ t H locs ht hvm _ hBX hz1 hk1 hS hce hcv hcl => ?_) (fun r9 u t H locs ht hvm hw hB hz1 hk1 hS => ?_)
  · exact vx_out (fun x9 h9 => absurd h9 (htb x9)) hlocks hce hcv hcl (zx_pass (P := (fun E9 => E9 = "java/lang/IndexOutOfBoundsException")) hS (hBX)) hS.2.2 (Nat.le_of_ble_eq_true rfl) (Nat.le_of_ble_eq_true rfl)
  · exact hw.elim
set_option maxHeartbeats 4000000 in
set_option maxRecDepth 100000 in
theorem c_X8_likeness (l : Launch) (hst : l.stackTraces = false) (D : va_G) (cy : Nat → ClassId) (ed sz : Nat) (h : Nat) (pe : Nat) (ne : Nat) (pa : Nat) (ro : Nat) (dy : Int32) (mc : Int32) (el : Nat) (p0 : Int32) (p1 : Int32) : vx_Met l yX8_likeness wzX8_likeness ({ frames := 8, cells := 1, slots := 6, locals := 123 }) (zx_Pc D cy ed sz [.ref h, .int p0, .int p1] [(h, .inr (13, [.ref pe, .ref ne, .ref pa, .ref ro, .int dy])), (pa, .inr (4, [.int mc, .ref el, .int 0]))]) (va_Qi (fun (_ : Int32) (_ : Unit) => False) (fun (u9 : Unit) (t9 : State) => zx_At D cy (va_A [(h, .inr (13, [.ref pe, .ref ne, .ref pa, .ref ro, .int dy])), (pa, .inr (4, [.int mc, .ref el, .int 0]))] sz) [] t9) (va_A [(h, .inr (13, [.ref pe, .ref ne, .ref pa, .ref ro, .int dy])), (pa, .inr (4, [.int mc, .ref el, .int 0]))] sz)) (zx_X (fun E9 => E9 = "java/lang/IndexOutOfBoundsException") (va_A [(h, .inr (13, [.ref pe, .ref ne, .ref pa, .ref ro, .int dy])), (pa, .inr (4, [.int mc, .ref el, .int 0]))] sz)) 1 6 (va_A [(h, .inr (13, [.ref pe, .ref ne, .ref pa, .ref ro, .int dy])), (pa, .inr (4, [.int mc, .ref el, .int 0]))] sz) := by
  refine vx_ofW (cc := cX8_likeness) (maxL := 5) (ret := (some .int)) (by decide) rfl ?_
  intro p e s m args below meth c s₁ B hml htb hv
  obtain ⟨rfl, hsz, hP, hK, hD0, hZ, hN⟩ := hv
  have hx := B.exec
  have hb := B.bytes
  have hr := B.returns
  have hts := atoms_spec (ws := wzX8_likeness) B.pre
  have hown : s.vm.findClass RX8 = some m.cls := findClass_of_methodNamed B.named
  have hlocks := B.notSynchronized
  subst hsz
  have hD := hD0.self (sz := s.heap.size)
  generalize hAe : va_A [(h, .inr (13, [.ref pe, .ref ne, .ref pa, .ref ro, .int dy])), (pa, .inr (4, [.int mc, .ref el, .int 0]))] s.heap.size = A at hD hZ ⊢
  have hA : ∀ q : Nat, s.heap.size ≤ q → A q := fun q h => by rw [← hAe]; exact Or.inr h
  have hS : va_S A s.heap s.heap [] := va_S.rf
  have hP : va_P D vwCl [(h, .inr (13, [.ref pe, .ref ne, .ref pa, .ref ro, .int dy])), (pa, .inr (4, [.int mc, .ref el, .int 0]))] s.heap := hP
  have hl := lv_entry ([.ref h, .int p0, .int p1]) (n := 5) (Nat.le_of_ble_eq_true rfl)
  rw [lg_entry_eq]
  generalize (lg_sl ([.ref h, .int p0, .int p1]) ++ List.replicate (5 - (lg_sl ([.ref h, .int p0, .int p1])).length) Slot.unset).toArray = ls at hl ⊢
  have hl : lv_has ls 5 [(0, .ref h), (1, .int p0), (2, .int p1)] := hl
  refine lv_aload_n hx hb dX8_likeness_0 rfl (lv_at hl 0 rfl) ?_
  refine lv_iload_n hx hb dX8_likeness_1 rfl (lv_at hl 1 rfl) ?_
  have hPc := hP.sub (ws' := [(h, .inr (13, [.ref pe, .ref ne, .ref pa, .ref ro, .int dy])), (pa, .inr (4, [.int mc, .ref el, .int 0]))]) [0, 1] rfl
  have hDc := hD.sub (ws' := [(h, .inr (13, [.ref pe, .ref ne, .ref pa, .ref ro, .int dy])), (pa, .inr (4, [.int mc, .ref el, .int 0]))]) [0, 1] (by decide) rfl
  have hFc := va_free (wc := [(h, .inr (13, [.ref pe, .ref ne, .ref pa, .ref ro, .int dy])), (pa, .inr (4, [.int mc, .ref el, .int 0]))]) hD hS hA [0, 1] rfl
  refine vx_callq (vx_runV (As := [.int p0]) (rest := []) ⟨hx, hb, hml, hown, hts⟩ (c_X8_paperAt l hst D cy ed s.heap.size h pe ne pa ro dy mc el p0) (cwV 1 hts (zx_GV mm_845 mm_847 mm_8 mm_71 mm_848) rfl rfl rfl (by decide +kernel) ⟨(Nat.le_of_ble_eq_true rfl), (Nat.le_of_ble_eq_true rfl)⟩) ⟨zx_blind, va_recv hK hPc (ci := 13) (q0 := 0) rfl rfl, zx_give hPc hK hDc hS hFc hZ hN⟩ rfl rfl hl.1 rfl (lv_room (Nat.le_of_ble_eq_true rfl)) dX8_likeness_2 ⟨(Nat.le_of_ble_eq_true rfl), (Nat.le_of_ble_eq_true rfl)⟩) hS (fun q _ h => hFc q h) hFc (fun q _ h => hFc q h) (fun E9 ce9 q9 _ t H locs ht hvm _ hBX hz1 hk1 hS hce hcv hcl => ?_) (fun r9 u t H locs ht hvm hw hB hz1 hk1 hS => ?_)
  · exact vx_out (fun x9 h9 => absurd h9 (htb x9)) hlocks hce hcv hcl (zx_pass (P := (fun E9 => E9 = "java/lang/IndexOutOfBoundsException")) hS (hBX)) hS.2.2 (Nat.le_of_ble_eq_true rfl) (Nat.le_of_ble_eq_true rfl)
  · exact hw.elim
set_option maxHeartbeats 4000000 in
set_option maxRecDepth 100000 in
theorem c_X8_tellMoney (l : Launch) (hst : l.stackTraces = false) (D : va_G) (cy : Nat → ClassId) (ed sz : Nat) (h : Nat) (pe : Nat) (ne : Nat) (pa : Nat) (ro : Nat) (dy : Int32) (a1 : Nat) (a2 : Nat) (a3 : Nat) (a4 : Nat) (a5 : Nat) (a6 : Nat) (a7 : Nat) (a8 : Nat) (a9 : Nat) (p0 : Int32) (p1 : Int32) (p2 : Int32) : vx_Met l yX8_tellMoney wzX8_tellMoney ({ frames := 7, cells := 1, slots := 6, locals := 102 }) (zx_Pc D cy ed sz [.ref h, .int p0, .int p1, .int p2] [(h, .inr (13, [.ref pe, .ref ne, .ref pa, .ref ro, .int dy])), (pe, .inr (9, [.int 0, .ref a1, .ref a2, .ref a3, .ref a4, .ref a5, .ref a6, .ref a7, .ref a8, .ref a9]))]) (va_Qi (fun (_ : Int32) (_ : Unit) => False) (fun (u9 : Unit) (t9 : State) => zx_At D cy (va_A [(h, .inr (13, [.ref pe, .ref ne, .ref pa, .ref ro, .int dy])), (pe, .inr (9, [.int 0, .ref a1, .ref a2, .ref a3, .ref a4, .ref a5, .ref a6, .ref a7, .ref a8, .ref a9]))] sz) [] t9) (va_A [(h, .inr (13, [.ref pe, .ref ne, .ref pa, .ref ro, .int dy])), (pe, .inr (9, [.int 0, .ref a1, .ref a2, .ref a3, .ref a4, .ref a5, .ref a6, .ref a7, .ref a8, .ref a9]))] sz)) (zx_X (fun E9 => E9 = "java/lang/IndexOutOfBoundsException") (va_A [(h, .inr (13, [.ref pe, .ref ne, .ref pa, .ref ro, .int dy])), (pe, .inr (9, [.int 0, .ref a1, .ref a2, .ref a3, .ref a4, .ref a5, .ref a6, .ref a7, .ref a8, .ref a9]))] sz)) 1 6 (va_A [(h, .inr (13, [.ref pe, .ref ne, .ref pa, .ref ro, .int dy])), (pe, .inr (9, [.int 0, .ref a1, .ref a2, .ref a3, .ref a4, .ref a5, .ref a6, .ref a7, .ref a8, .ref a9]))] sz) := by
  refine vx_ofW (cc := cX8_tellMoney) (maxL := 5) (ret := (some .int)) (by decide) rfl ?_
  intro p e s m args below meth c s₁ B hml htb hv
  obtain ⟨rfl, hsz, hP, hK, hD0, hZ, hN⟩ := hv
  have hx := B.exec
  have hb := B.bytes
  have hr := B.returns
  have hts := atoms_spec (ws := wzX8_tellMoney) B.pre
  have hown : s.vm.findClass RX8 = some m.cls := findClass_of_methodNamed B.named
  have hlocks := B.notSynchronized
  subst hsz
  have hD := hD0.self (sz := s.heap.size)
  generalize hAe : va_A [(h, .inr (13, [.ref pe, .ref ne, .ref pa, .ref ro, .int dy])), (pe, .inr (9, [.int 0, .ref a1, .ref a2, .ref a3, .ref a4, .ref a5, .ref a6, .ref a7, .ref a8, .ref a9]))] s.heap.size = A at hD hZ ⊢
  have hA : ∀ q : Nat, s.heap.size ≤ q → A q := fun q h => by rw [← hAe]; exact Or.inr h
  have hS : va_S A s.heap s.heap [] := va_S.rf
  have hP : va_P D vwCl [(h, .inr (13, [.ref pe, .ref ne, .ref pa, .ref ro, .int dy])), (pe, .inr (9, [.int 0, .ref a1, .ref a2, .ref a3, .ref a4, .ref a5, .ref a6, .ref a7, .ref a8, .ref a9]))] s.heap := hP
  have hl := lv_entry ([.ref h, .int p0, .int p1, .int p2]) (n := 5) (Nat.le_of_ble_eq_true rfl)
  rw [lg_entry_eq]
  generalize (lg_sl ([.ref h, .int p0, .int p1, .int p2]) ++ List.replicate (5 - (lg_sl ([.ref h, .int p0, .int p1, .int p2])).length) Slot.unset).toArray = ls at hl ⊢
  have hl : lv_has ls 5 [(0, .ref h), (1, .int p0), (2, .int p1), (3, .int p2)] := hl
  refine lv_aload_n hx hb dX8_tellMoney_0 rfl (lv_at hl 0 rfl) ?_
  refine lv_iload_n hx hb dX8_tellMoney_1 rfl (lv_at hl 1 rfl) ?_
  have hPc := hP.sub (ws' := [(h, .inr (13, [.ref pe, .ref ne, .ref pa, .ref ro, .int dy])), (pe, .inr (9, [.int 0, .ref a1, .ref a2, .ref a3, .ref a4, .ref a5, .ref a6, .ref a7, .ref a8, .ref a9]))]) [0, 1] rfl
  have hDc := hD.sub (ws' := [(h, .inr (13, [.ref pe, .ref ne, .ref pa, .ref ro, .int dy])), (pe, .inr (9, [.int 0, .ref a1, .ref a2, .ref a3, .ref a4, .ref a5, .ref a6, .ref a7, .ref a8, .ref a9]))]) [0, 1] (by decide) rfl
  have hFc := va_free (wc := [(h, .inr (13, [.ref pe, .ref ne, .ref pa, .ref ro, .int dy])), (pe, .inr (9, [.int 0, .ref a1, .ref a2, .ref a3, .ref a4, .ref a5, .ref a6, .ref a7, .ref a8, .ref a9]))]) hD hS hA [0, 1] rfl
  refine vx_callv (vx_runV (As := [.int p0]) (rest := []) ⟨hx, hb, hml, hown, hts⟩ (c_X8_needPerson l hst D cy ed s.heap.size h pe ne pa ro dy a1 a2 a3 a4 a5 a6 a7 a8 a9 p0) (cwV 1 hts (zx_GV mm_469 mm_471 mm_2 mm_71 mm_472) rfl rfl rfl (by decide +kernel) ⟨(Nat.le_of_ble_eq_true rfl), (Nat.le_of_ble_eq_true rfl)⟩) ⟨zx_blind, va_recv hK hPc (ci := 13) (q0 := 0) rfl rfl, zx_give hPc hK hDc hS hFc hZ hN⟩ rfl rfl hl.1 rfl (lv_room (Nat.le_of_ble_eq_true rfl)) dX8_tellMoney_2 ⟨(Nat.le_of_ble_eq_true rfl), (Nat.le_of_ble_eq_true rfl)⟩) hS (fun q _ h => hFc q h) hFc (fun q _ h => hFc q h) (fun E9 ce9 q9 _ t H locs ht hvm _ hBX hz1 hk1 hS hce hcv hcl => ?_) (fun u t H locs ht hvm hw hB hz1 hk1 hS => ?_)
  · exact vx_out (fun x9 h9 => absurd h9 (htb x9)) hlocks hce hcv hcl (zx_pass (P := (fun E9 => E9 = "java/lang/IndexOutOfBoundsException")) hS (hBX)) hS.2.2 (Nat.le_of_ble_eq_true rfl) (Nat.le_of_ble_eq_true rfl)
  · exact hw.elim
set_option maxHeartbeats 4000000 in
set_option maxRecDepth 100000 in
theorem c_X8_move (l : Launch) (hst : l.stackTraces = false) (D : va_G) (cy : Nat → ClassId) (ed sz : Nat) (h : Nat) (pe : Nat) (ne : Nat) (pa : Nat) (ro : Nat) (dy : Int32) (a1 : Nat) (a2 : Nat) (a3 : Nat) (a4 : Nat) (a5 : Nat) (a6 : Nat) (a7 : Nat) (a8 : Nat) (a9 : Nat) (p0 : Int32) (p1 : Int32) : vx_Met l yX8_move wzX8_move ({ frames := 7, cells := 1, slots := 6, locals := 102 }) (zx_Pc D cy ed sz [.ref h, .int p0, .int p1] [(h, .inr (13, [.ref pe, .ref ne, .ref pa, .ref ro, .int dy])), (pe, .inr (9, [.int 0, .ref a1, .ref a2, .ref a3, .ref a4, .ref a5, .ref a6, .ref a7, .ref a8, .ref a9]))]) (va_Qi (fun (_ : Int32) (_ : Unit) => False) (fun (u9 : Unit) (t9 : State) => zx_At D cy (va_A [(h, .inr (13, [.ref pe, .ref ne, .ref pa, .ref ro, .int dy])), (pe, .inr (9, [.int 0, .ref a1, .ref a2, .ref a3, .ref a4, .ref a5, .ref a6, .ref a7, .ref a8, .ref a9]))] sz) [] t9) (va_A [(h, .inr (13, [.ref pe, .ref ne, .ref pa, .ref ro, .int dy])), (pe, .inr (9, [.int 0, .ref a1, .ref a2, .ref a3, .ref a4, .ref a5, .ref a6, .ref a7, .ref a8, .ref a9]))] sz)) (zx_X (fun E9 => E9 = "java/lang/IndexOutOfBoundsException") (va_A [(h, .inr (13, [.ref pe, .ref ne, .ref pa, .ref ro, .int dy])), (pe, .inr (9, [.int 0, .ref a1, .ref a2, .ref a3, .ref a4, .ref a5, .ref a6, .ref a7, .ref a8, .ref a9]))] sz)) 1 6 (va_A [(h, .inr (13, [.ref pe, .ref ne, .ref pa, .ref ro, .int dy])), (pe, .inr (9, [.int 0, .ref a1, .ref a2, .ref a3, .ref a4, .ref a5, .ref a6, .ref a7, .ref a8, .ref a9]))] sz) := by
  refine vx_ofW (cc := cX8_move) (maxL := 4) (ret := (some .int)) (by decide) rfl ?_
  intro p e s m args below meth c s₁ B hml htb hv
  obtain ⟨rfl, hsz, hP, hK, hD0, hZ, hN⟩ := hv
  have hx := B.exec
  have hb := B.bytes
  have hr := B.returns
  have hts := atoms_spec (ws := wzX8_move) B.pre
  have hown : s.vm.findClass RX8 = some m.cls := findClass_of_methodNamed B.named
  have hlocks := B.notSynchronized
  subst hsz
  have hD := hD0.self (sz := s.heap.size)
  generalize hAe : va_A [(h, .inr (13, [.ref pe, .ref ne, .ref pa, .ref ro, .int dy])), (pe, .inr (9, [.int 0, .ref a1, .ref a2, .ref a3, .ref a4, .ref a5, .ref a6, .ref a7, .ref a8, .ref a9]))] s.heap.size = A at hD hZ ⊢
  have hA : ∀ q : Nat, s.heap.size ≤ q → A q := fun q h => by rw [← hAe]; exact Or.inr h
  have hS : va_S A s.heap s.heap [] := va_S.rf
  have hP : va_P D vwCl [(h, .inr (13, [.ref pe, .ref ne, .ref pa, .ref ro, .int dy])), (pe, .inr (9, [.int 0, .ref a1, .ref a2, .ref a3, .ref a4, .ref a5, .ref a6, .ref a7, .ref a8, .ref a9]))] s.heap := hP
  have hl := lv_entry ([.ref h, .int p0, .int p1]) (n := 4) (Nat.le_of_ble_eq_true rfl)
  rw [lg_entry_eq]
  generalize (lg_sl ([.ref h, .int p0, .int p1]) ++ List.replicate (4 - (lg_sl ([.ref h, .int p0, .int p1])).length) Slot.unset).toArray = ls at hl ⊢
  have hl : lv_has ls 4 [(0, .ref h), (1, .int p0), (2, .int p1)] := hl
  refine lv_aload_n hx hb dX8_move_0 rfl (lv_at hl 0 rfl) ?_
  refine lv_iload_n hx hb dX8_move_1 rfl (lv_at hl 1 rfl) ?_
  have hPc := hP.sub (ws' := [(h, .inr (13, [.ref pe, .ref ne, .ref pa, .ref ro, .int dy])), (pe, .inr (9, [.int 0, .ref a1, .ref a2, .ref a3, .ref a4, .ref a5, .ref a6, .ref a7, .ref a8, .ref a9]))]) [0, 1] rfl
  have hDc := hD.sub (ws' := [(h, .inr (13, [.ref pe, .ref ne, .ref pa, .ref ro, .int dy])), (pe, .inr (9, [.int 0, .ref a1, .ref a2, .ref a3, .ref a4, .ref a5, .ref a6, .ref a7, .ref a8, .ref a9]))]) [0, 1] (by decide) rfl
  have hFc := va_free (wc := [(h, .inr (13, [.ref pe, .ref ne, .ref pa, .ref ro, .int dy])), (pe, .inr (9, [.int 0, .ref a1, .ref a2, .ref a3, .ref a4, .ref a5, .ref a6, .ref a7, .ref a8, .ref a9]))]) hD hS hA [0, 1] rfl
  refine vx_callv (vx_runV (As := [.int p0]) (rest := []) ⟨hx, hb, hml, hown, hts⟩ (c_X8_needPerson l hst D cy ed s.heap.size h pe ne pa ro dy a1 a2 a3 a4 a5 a6 a7 a8 a9 p0) (cwV 1 hts (zx_GV mm_469 mm_471 mm_2 mm_71 mm_472) rfl rfl rfl (by decide +kernel) ⟨(Nat.le_of_ble_eq_true rfl), (Nat.le_of_ble_eq_true rfl)⟩) ⟨zx_blind, va_recv hK hPc (ci := 13) (q0 := 0) rfl rfl, zx_give hPc hK hDc hS hFc hZ hN⟩ rfl rfl hl.1 rfl (lv_room (Nat.le_of_ble_eq_true rfl)) dX8_move_2 ⟨(Nat.le_of_ble_eq_true rfl), (Nat.le_of_ble_eq_true rfl)⟩) hS (fun q _ h => hFc q h) hFc (fun q _ h => hFc q h) (fun E9 ce9 q9 _ t H locs ht hvm _ hBX hz1 hk1 hS hce hcv hcl => ?_) (fun u t H locs ht hvm hw hB hz1 hk1 hS => ?_)
  · exact vx_out (fun x9 h9 => absurd h9 (htb x9)) hlocks hce hcv hcl (zx_pass (P := (fun E9 => E9 = "java/lang/IndexOutOfBoundsException")) hS (hBX)) hS.2.2 (Nat.le_of_ble_eq_true rfl) (Nat.le_of_ble_eq_true rfl)
  · exact hw.elim
set_option maxHeartbeats 4000000 in
set_option maxRecDepth 100000 in
theorem c_X8_alarm (l : Launch) (hst : l.stackTraces = false) (D : va_G) (cy : Nat → ClassId) (ed sz : Nat) (h : Nat) (pe : Nat) (ne : Nat) (pa : Nat) (ro : Nat) (dy : Int32) (mc : Int32) (el : Nat) (p0 : Int32) (p1 : Int32) : vx_Met l yX8_alarm wzX8_alarm ({ frames := 8, cells := 1, slots := 6, locals := 123 }) (zx_Pc D cy ed sz [.ref h, .int p0, .int p1] [(h, .inr (13, [.ref pe, .ref ne, .ref pa, .ref ro, .int dy])), (pa, .inr (4, [.int mc, .ref el, .int 0]))]) (va_Qi (fun (_ : Int32) (_ : Unit) => False) (fun (u9 : Unit) (t9 : State) => zx_At D cy (va_A [(h, .inr (13, [.ref pe, .ref ne, .ref pa, .ref ro, .int dy])), (pa, .inr (4, [.int mc, .ref el, .int 0]))] sz) [] t9) (va_A [(h, .inr (13, [.ref pe, .ref ne, .ref pa, .ref ro, .int dy])), (pa, .inr (4, [.int mc, .ref el, .int 0]))] sz)) (zx_X (fun E9 => E9 = "java/lang/IndexOutOfBoundsException") (va_A [(h, .inr (13, [.ref pe, .ref ne, .ref pa, .ref ro, .int dy])), (pa, .inr (4, [.int mc, .ref el, .int 0]))] sz)) 1 6 (va_A [(h, .inr (13, [.ref pe, .ref ne, .ref pa, .ref ro, .int dy])), (pa, .inr (4, [.int mc, .ref el, .int 0]))] sz) := by
  refine vx_ofW (cc := cX8_alarm) (maxL := 6) (ret := (some .boolean)) (by decide) rfl ?_
  intro p e s m args below meth c s₁ B hml htb hv
  obtain ⟨rfl, hsz, hP, hK, hD0, hZ, hN⟩ := hv
  have hx := B.exec
  have hb := B.bytes
  have hr := B.returns
  have hts := atoms_spec (ws := wzX8_alarm) B.pre
  have hown : s.vm.findClass RX8 = some m.cls := findClass_of_methodNamed B.named
  have hlocks := B.notSynchronized
  subst hsz
  have hD := hD0.self (sz := s.heap.size)
  generalize hAe : va_A [(h, .inr (13, [.ref pe, .ref ne, .ref pa, .ref ro, .int dy])), (pa, .inr (4, [.int mc, .ref el, .int 0]))] s.heap.size = A at hD hZ ⊢
  have hA : ∀ q : Nat, s.heap.size ≤ q → A q := fun q h => by rw [← hAe]; exact Or.inr h
  have hS : va_S A s.heap s.heap [] := va_S.rf
  have hP : va_P D vwCl [(h, .inr (13, [.ref pe, .ref ne, .ref pa, .ref ro, .int dy])), (pa, .inr (4, [.int mc, .ref el, .int 0]))] s.heap := hP
  have hl := lv_entry ([.ref h, .int p0, .int p1]) (n := 6) (Nat.le_of_ble_eq_true rfl)
  rw [lg_entry_eq]
  generalize (lg_sl ([.ref h, .int p0, .int p1]) ++ List.replicate (6 - (lg_sl ([.ref h, .int p0, .int p1])).length) Slot.unset).toArray = ls at hl ⊢
  have hl : lv_has ls 6 [(0, .ref h), (1, .int p0), (2, .int p1)] := hl
  refine lv_aload_n hx hb dX8_alarm_0 rfl (lv_at hl 0 rfl) ?_
  refine lv_iload_n hx hb dX8_alarm_1 rfl (lv_at hl 1 rfl) ?_
  have hPc := hP.sub (ws' := [(h, .inr (13, [.ref pe, .ref ne, .ref pa, .ref ro, .int dy])), (pa, .inr (4, [.int mc, .ref el, .int 0]))]) [0, 1] rfl
  have hDc := hD.sub (ws' := [(h, .inr (13, [.ref pe, .ref ne, .ref pa, .ref ro, .int dy])), (pa, .inr (4, [.int mc, .ref el, .int 0]))]) [0, 1] (by decide) rfl
  have hFc := va_free (wc := [(h, .inr (13, [.ref pe, .ref ne, .ref pa, .ref ro, .int dy])), (pa, .inr (4, [.int mc, .ref el, .int 0]))]) hD hS hA [0, 1] rfl
  refine vx_callq (vx_runV (As := [.int p0]) (rest := []) ⟨hx, hb, hml, hown, hts⟩ (c_X8_paperAt l hst D cy ed s.heap.size h pe ne pa ro dy mc el p0) (cwV 1 hts (zx_GV mm_845 mm_847 mm_8 mm_71 mm_848) rfl rfl rfl (by decide +kernel) ⟨(Nat.le_of_ble_eq_true rfl), (Nat.le_of_ble_eq_true rfl)⟩) ⟨zx_blind, va_recv hK hPc (ci := 13) (q0 := 0) rfl rfl, zx_give hPc hK hDc hS hFc hZ hN⟩ rfl rfl hl.1 rfl (lv_room (Nat.le_of_ble_eq_true rfl)) dX8_alarm_2 ⟨(Nat.le_of_ble_eq_true rfl), (Nat.le_of_ble_eq_true rfl)⟩) hS (fun q _ h => hFc q h) hFc (fun q _ h => hFc q h) (fun E9 ce9 q9 _ t H locs ht hvm _ hBX hz1 hk1 hS hce hcv hcl => ?_) (fun r9 u t H locs ht hvm hw hB hz1 hk1 hS => ?_)
  · exact vx_out (fun x9 h9 => absurd h9 (htb x9)) hlocks hce hcv hcl (zx_pass (P := (fun E9 => E9 = "java/lang/IndexOutOfBoundsException")) hS (hBX)) hS.2.2 (Nat.le_of_ble_eq_true rfl) (Nat.le_of_ble_eq_true rfl)
  · exact hw.elim
set_option maxHeartbeats 4000000 in
set_option maxRecDepth 100000 in
theorem c_X8_equalTo (l : Launch) (hst : l.stackTraces = false) (D : va_G) (cy : Nat → ClassId) (ed sz : Nat) (h : Nat) (pe : Nat) (ne : Nat) (pa : Nat) (ro : Nat) (dy : Int32) (mc : Int32) (el : Nat) (p0 : Int32) : vx_Met l yX8_equalTo wzX8_equalTo ({ frames := 8, cells := 1, slots := 6, locals := 123 }) (zx_Pc D cy ed sz [.ref h, .int p0] [(h, .inr (13, [.ref pe, .ref ne, .ref pa, .ref ro, .int dy])), (pa, .inr (4, [.int mc, .ref el, .int 0]))]) (va_Qi (fun (_ : Int32) (_ : Unit) => False) (fun (u9 : Unit) (t9 : State) => zx_At D cy (va_A [(h, .inr (13, [.ref pe, .ref ne, .ref pa, .ref ro, .int dy])), (pa, .inr (4, [.int mc, .ref el, .int 0]))] sz) [] t9) (va_A [(h, .inr (13, [.ref pe, .ref ne, .ref pa, .ref ro, .int dy])), (pa, .inr (4, [.int mc, .ref el, .int 0]))] sz)) (zx_X (fun E9 => E9 = "java/lang/IndexOutOfBoundsException") (va_A [(h, .inr (13, [.ref pe, .ref ne, .ref pa, .ref ro, .int dy])), (pa, .inr (4, [.int mc, .ref el, .int 0]))] sz)) 1 6 (va_A [(h, .inr (13, [.ref pe, .ref ne, .ref pa, .ref ro, .int dy])), (pa, .inr (4, [.int mc, .ref el, .int 0]))] sz) := by
  refine vx_ofW (cc := cX8_equalTo) (maxL := 4) (ret := (some .int)) (by decide) rfl ?_
  intro p e s m args below meth c s₁ B hml htb hv
  obtain ⟨rfl, hsz, hP, hK, hD0, hZ, hN⟩ := hv
  have hx := B.exec
  have hb := B.bytes
  have hr := B.returns
  have hts := atoms_spec (ws := wzX8_equalTo) B.pre
  have hown : s.vm.findClass RX8 = some m.cls := findClass_of_methodNamed B.named
  have hlocks := B.notSynchronized
  subst hsz
  have hD := hD0.self (sz := s.heap.size)
  generalize hAe : va_A [(h, .inr (13, [.ref pe, .ref ne, .ref pa, .ref ro, .int dy])), (pa, .inr (4, [.int mc, .ref el, .int 0]))] s.heap.size = A at hD hZ ⊢
  have hA : ∀ q : Nat, s.heap.size ≤ q → A q := fun q h => by rw [← hAe]; exact Or.inr h
  have hS : va_S A s.heap s.heap [] := va_S.rf
  have hP : va_P D vwCl [(h, .inr (13, [.ref pe, .ref ne, .ref pa, .ref ro, .int dy])), (pa, .inr (4, [.int mc, .ref el, .int 0]))] s.heap := hP
  have hl := lv_entry ([.ref h, .int p0]) (n := 4) (Nat.le_of_ble_eq_true rfl)
  rw [lg_entry_eq]
  generalize (lg_sl ([.ref h, .int p0]) ++ List.replicate (4 - (lg_sl ([.ref h, .int p0])).length) Slot.unset).toArray = ls at hl ⊢
  have hl : lv_has ls 4 [(0, .ref h), (1, .int p0)] := hl
  refine lv_aload_n hx hb dX8_equalTo_0 rfl (lv_at hl 0 rfl) ?_
  refine lv_iload_n hx hb dX8_equalTo_1 rfl (lv_at hl 1 rfl) ?_
  have hPc := hP.sub (ws' := [(h, .inr (13, [.ref pe, .ref ne, .ref pa, .ref ro, .int dy])), (pa, .inr (4, [.int mc, .ref el, .int 0]))]) [0, 1] rfl
  have hDc := hD.sub (ws' := [(h, .inr (13, [.ref pe, .ref ne, .ref pa, .ref ro, .int dy])), (pa, .inr (4, [.int mc, .ref el, .int 0]))]) [0, 1] (by decide) rfl
  have hFc := va_free (wc := [(h, .inr (13, [.ref pe, .ref ne, .ref pa, .ref ro, .int dy])), (pa, .inr (4, [.int mc, .ref el, .int 0]))]) hD hS hA [0, 1] rfl
  refine vx_callq (vx_runV (As := [.int p0]) (rest := []) ⟨hx, hb, hml, hown, hts⟩ (c_X8_paperAt l hst D cy ed s.heap.size h pe ne pa ro dy mc el p0) (cwV 1 hts (zx_GV mm_845 mm_847 mm_8 mm_71 mm_848) rfl rfl rfl (by decide +kernel) ⟨(Nat.le_of_ble_eq_true rfl), (Nat.le_of_ble_eq_true rfl)⟩) ⟨zx_blind, va_recv hK hPc (ci := 13) (q0 := 0) rfl rfl, zx_give hPc hK hDc hS hFc hZ hN⟩ rfl rfl hl.1 rfl (lv_room (Nat.le_of_ble_eq_true rfl)) dX8_equalTo_2 ⟨(Nat.le_of_ble_eq_true rfl), (Nat.le_of_ble_eq_true rfl)⟩) hS (fun q _ h => hFc q h) hFc (fun q _ h => hFc q h) (fun E9 ce9 q9 _ t H locs ht hvm _ hBX hz1 hk1 hS hce hcv hcl => ?_) (fun r9 u t H locs ht hvm hw hB hz1 hk1 hS => ?_)
  · exact vx_out (fun x9 h9 => absurd h9 (htb x9)) hlocks hce hcv hcl (zx_pass (P := (fun E9 => E9 = "java/lang/IndexOutOfBoundsException")) hS (hBX)) hS.2.2 (Nat.le_of_ble_eq_true rfl) (Nat.le_of_ble_eq_true rfl)
  · exact hw.elim
set_option maxHeartbeats 4000000 in
set_option maxRecDepth 100000 in
theorem c_X8_complain (l : Launch) (hst : l.stackTraces = false) (D : va_G) (cy : Nat → ClassId) (ed sz : Nat) (h : Nat) (pe : Nat) (ne : Nat) (pa : Nat) (ro : Nat) (dy : Int32) (mc : Int32) (el : Nat) (p0 : Int32) (p1 : Int32) : vx_Met l yX8_complain wzX8_complain ({ frames := 8, cells := 1, slots := 6, locals := 123 }) (zx_Pc D cy ed sz [.ref h, .int p0, .int p1] [(h, .inr (13, [.ref pe, .ref ne, .ref pa, .ref ro, .int dy])), (pa, .inr (4, [.int mc, .ref el, .int 0]))]) (va_Qi (fun (_ : Int32) (_ : Unit) => False) (fun (u9 : Unit) (t9 : State) => zx_At D cy (va_A [(h, .inr (13, [.ref pe, .ref ne, .ref pa, .ref ro, .int dy])), (pa, .inr (4, [.int mc, .ref el, .int 0]))] sz) [] t9) (va_A [(h, .inr (13, [.ref pe, .ref ne, .ref pa, .ref ro, .int dy])), (pa, .inr (4, [.int mc, .ref el, .int 0]))] sz)) (zx_X (fun E9 => E9 = "java/lang/IndexOutOfBoundsException") (va_A [(h, .inr (13, [.ref pe, .ref ne, .ref pa, .ref ro, .int dy])), (pa, .inr (4, [.int mc, .ref el, .int 0]))] sz)) 1 6 (va_A [(h, .inr (13, [.ref pe, .ref ne, .ref pa, .ref ro, .int dy])), (pa, .inr (4, [.int mc, .ref el, .int 0]))] sz) := by
  refine vx_ofW (cc := cX8_complain) (maxL := 4) (ret := (some .int)) (by decide) rfl ?_
  intro p e s m args below meth c s₁ B hml htb hv
  obtain ⟨rfl, hsz, hP, hK, hD0, hZ, hN⟩ := hv
  have hx := B.exec
  have hb := B.bytes
  have hr := B.returns
  have hts := atoms_spec (ws := wzX8_complain) B.pre
  have hown : s.vm.findClass RX8 = some m.cls := findClass_of_methodNamed B.named
  have hlocks := B.notSynchronized
  subst hsz
  have hD := hD0.self (sz := s.heap.size)
  generalize hAe : va_A [(h, .inr (13, [.ref pe, .ref ne, .ref pa, .ref ro, .int dy])), (pa, .inr (4, [.int mc, .ref el, .int 0]))] s.heap.size = A at hD hZ ⊢
  have hA : ∀ q : Nat, s.heap.size ≤ q → A q := fun q h => by rw [← hAe]; exact Or.inr h
  have hS : va_S A s.heap s.heap [] := va_S.rf
  have hP : va_P D vwCl [(h, .inr (13, [.ref pe, .ref ne, .ref pa, .ref ro, .int dy])), (pa, .inr (4, [.int mc, .ref el, .int 0]))] s.heap := hP
  have hl := lv_entry ([.ref h, .int p0, .int p1]) (n := 4) (Nat.le_of_ble_eq_true rfl)
  rw [lg_entry_eq]
  generalize (lg_sl ([.ref h, .int p0, .int p1]) ++ List.replicate (4 - (lg_sl ([.ref h, .int p0, .int p1])).length) Slot.unset).toArray = ls at hl ⊢
  have hl : lv_has ls 4 [(0, .ref h), (1, .int p0), (2, .int p1)] := hl
  refine lv_aload_n hx hb dX8_complain_0 rfl (lv_at hl 0 rfl) ?_
  refine lv_iload_n hx hb dX8_complain_1 rfl (lv_at hl 1 rfl) ?_
  have hPc := hP.sub (ws' := [(h, .inr (13, [.ref pe, .ref ne, .ref pa, .ref ro, .int dy])), (pa, .inr (4, [.int mc, .ref el, .int 0]))]) [0, 1] rfl
  have hDc := hD.sub (ws' := [(h, .inr (13, [.ref pe, .ref ne, .ref pa, .ref ro, .int dy])), (pa, .inr (4, [.int mc, .ref el, .int 0]))]) [0, 1] (by decide) rfl
  have hFc := va_free (wc := [(h, .inr (13, [.ref pe, .ref ne, .ref pa, .ref ro, .int dy])), (pa, .inr (4, [.int mc, .ref el, .int 0]))]) hD hS hA [0, 1] rfl
  refine vx_callq (vx_runV (As := [.int p0]) (rest := []) ⟨hx, hb, hml, hown, hts⟩ (c_X8_paperAt l hst D cy ed s.heap.size h pe ne pa ro dy mc el p0) (cwV 1 hts (zx_GV mm_845 mm_847 mm_8 mm_71 mm_848) rfl rfl rfl (by decide +kernel) ⟨(Nat.le_of_ble_eq_true rfl), (Nat.le_of_ble_eq_true rfl)⟩) ⟨zx_blind, va_recv hK hPc (ci := 13) (q0 := 0) rfl rfl, zx_give hPc hK hDc hS hFc hZ hN⟩ rfl rfl hl.1 rfl (lv_room (Nat.le_of_ble_eq_true rfl)) dX8_complain_2 ⟨(Nat.le_of_ble_eq_true rfl), (Nat.le_of_ble_eq_true rfl)⟩) hS (fun q _ h => hFc q h) hFc (fun q _ h => hFc q h) (fun E9 ce9 q9 _ t H locs ht hvm _ hBX hz1 hk1 hS hce hcv hcl => ?_) (fun r9 u t H locs ht hvm hw hB hz1 hk1 hS => ?_)
  · exact vx_out (fun x9 h9 => absurd h9 (htb x9)) hlocks hce hcv hcl (zx_pass (P := (fun E9 => E9 = "java/lang/IndexOutOfBoundsException")) hS (hBX)) hS.2.2 (Nat.le_of_ble_eq_true rfl) (Nat.le_of_ble_eq_true rfl)
  · exact hw.elim
set_option maxHeartbeats 4000000 in
set_option maxRecDepth 100000 in
theorem c_X8_seat (l : Launch) (hst : l.stackTraces = false) (D : va_G) (cy : Nat → ClassId) (ed sz : Nat) (h : Nat) (pe : Nat) (ne : Nat) (pa : Nat) (ro : Nat) (dy : Int32) (mc : Int32) (el : Nat) (p0 : Int32) : vx_Met l yX8_seat wzX8_seat ({ frames := 8, cells := 1, slots := 6, locals := 123 }) (zx_Pc D cy ed sz [.ref h, .int p0] [(h, .inr (13, [.ref pe, .ref ne, .ref pa, .ref ro, .int dy])), (pa, .inr (4, [.int mc, .ref el, .int 0]))]) (va_Qi (fun (_ : Int32) (_ : Unit) => False) (fun (u9 : Unit) (t9 : State) => zx_At D cy (va_A [(h, .inr (13, [.ref pe, .ref ne, .ref pa, .ref ro, .int dy])), (pa, .inr (4, [.int mc, .ref el, .int 0]))] sz) [] t9) (va_A [(h, .inr (13, [.ref pe, .ref ne, .ref pa, .ref ro, .int dy])), (pa, .inr (4, [.int mc, .ref el, .int 0]))] sz)) (zx_X (fun E9 => E9 = "java/lang/IndexOutOfBoundsException") (va_A [(h, .inr (13, [.ref pe, .ref ne, .ref pa, .ref ro, .int dy])), (pa, .inr (4, [.int mc, .ref el, .int 0]))] sz)) 1 6 (va_A [(h, .inr (13, [.ref pe, .ref ne, .ref pa, .ref ro, .int dy])), (pa, .inr (4, [.int mc, .ref el, .int 0]))] sz) := by
  refine vx_ofW (cc := cX8_seat) (maxL := 4) (ret := (some .int)) (by decide) rfl ?_
  intro p e s m args below meth c s₁ B hml htb hv
  obtain ⟨rfl, hsz, hP, hK, hD0, hZ, hN⟩ := hv
  have hx := B.exec
  have hb := B.bytes
  have hr := B.returns
  have hts := atoms_spec (ws := wzX8_seat) B.pre
  have hown : s.vm.findClass RX8 = some m.cls := findClass_of_methodNamed B.named
  have hlocks := B.notSynchronized
  subst hsz
  have hD := hD0.self (sz := s.heap.size)
  generalize hAe : va_A [(h, .inr (13, [.ref pe, .ref ne, .ref pa, .ref ro, .int dy])), (pa, .inr (4, [.int mc, .ref el, .int 0]))] s.heap.size = A at hD hZ ⊢
  have hA : ∀ q : Nat, s.heap.size ≤ q → A q := fun q h => by rw [← hAe]; exact Or.inr h
  have hS : va_S A s.heap s.heap [] := va_S.rf
  have hP : va_P D vwCl [(h, .inr (13, [.ref pe, .ref ne, .ref pa, .ref ro, .int dy])), (pa, .inr (4, [.int mc, .ref el, .int 0]))] s.heap := hP
  have hl := lv_entry ([.ref h, .int p0]) (n := 4) (Nat.le_of_ble_eq_true rfl)
  rw [lg_entry_eq]
  generalize (lg_sl ([.ref h, .int p0]) ++ List.replicate (4 - (lg_sl ([.ref h, .int p0])).length) Slot.unset).toArray = ls at hl ⊢
  have hl : lv_has ls 4 [(0, .ref h), (1, .int p0)] := hl
  refine lv_aload_n hx hb dX8_seat_0 rfl (lv_at hl 0 rfl) ?_
  refine lv_iload_n hx hb dX8_seat_1 rfl (lv_at hl 1 rfl) ?_
  have hPc := hP.sub (ws' := [(h, .inr (13, [.ref pe, .ref ne, .ref pa, .ref ro, .int dy])), (pa, .inr (4, [.int mc, .ref el, .int 0]))]) [0, 1] rfl
  have hDc := hD.sub (ws' := [(h, .inr (13, [.ref pe, .ref ne, .ref pa, .ref ro, .int dy])), (pa, .inr (4, [.int mc, .ref el, .int 0]))]) [0, 1] (by decide) rfl
  have hFc := va_free (wc := [(h, .inr (13, [.ref pe, .ref ne, .ref pa, .ref ro, .int dy])), (pa, .inr (4, [.int mc, .ref el, .int 0]))]) hD hS hA [0, 1] rfl
  refine vx_callq (vx_runV (As := [.int p0]) (rest := []) ⟨hx, hb, hml, hown, hts⟩ (c_X8_paperAt l hst D cy ed s.heap.size h pe ne pa ro dy mc el p0) (cwV 1 hts (zx_GV mm_845 mm_847 mm_8 mm_71 mm_848) rfl rfl rfl (by decide +kernel) ⟨(Nat.le_of_ble_eq_true rfl), (Nat.le_of_ble_eq_true rfl)⟩) ⟨zx_blind, va_recv hK hPc (ci := 13) (q0 := 0) rfl rfl, zx_give hPc hK hDc hS hFc hZ hN⟩ rfl rfl hl.1 rfl (lv_room (Nat.le_of_ble_eq_true rfl)) dX8_seat_2 ⟨(Nat.le_of_ble_eq_true rfl), (Nat.le_of_ble_eq_true rfl)⟩) hS (fun q _ h => hFc q h) hFc (fun q _ h => hFc q h) (fun E9 ce9 q9 _ t H locs ht hvm _ hBX hz1 hk1 hS hce hcv hcl => ?_) (fun r9 u t H locs ht hvm hw hB hz1 hk1 hS => ?_)
  · exact vx_out (fun x9 h9 => absurd h9 (htb x9)) hlocks hce hcv hcl (zx_pass (P := (fun E9 => E9 = "java/lang/IndexOutOfBoundsException")) hS (hBX)) hS.2.2 (Nat.le_of_ble_eq_true rfl) (Nat.le_of_ble_eq_true rfl)
  · exact hw.elim
set_option maxHeartbeats 4000000 in
set_option maxRecDepth 100000 in
theorem c_X8_vote (l : Launch) (hst : l.stackTraces = false) (D : va_G) (cy : Nat → ClassId) (ed sz : Nat) (h : Nat) (pe : Nat) (ne : Nat) (pa : Nat) (ro : Nat) (dy : Int32) (mc : Int32) (el : Nat) (p0 : Int32) (p1 : Int32) (p2 : Int32) : vx_Met l yX8_vote wzX8_vote ({ frames := 8, cells := 1, slots := 6, locals := 123 }) (zx_Pc D cy ed sz [.ref h, .int p0, .int p1, .int p2] [(h, .inr (13, [.ref pe, .ref ne, .ref pa, .ref ro, .int dy])), (pa, .inr (4, [.int mc, .ref el, .int 0]))]) (va_Qi (fun (_ : Int32) (_ : Unit) => False) (fun (u9 : Unit) (t9 : State) => zx_At D cy (va_A [(h, .inr (13, [.ref pe, .ref ne, .ref pa, .ref ro, .int dy])), (pa, .inr (4, [.int mc, .ref el, .int 0]))] sz) [] t9) (va_A [(h, .inr (13, [.ref pe, .ref ne, .ref pa, .ref ro, .int dy])), (pa, .inr (4, [.int mc, .ref el, .int 0]))] sz)) (zx_X (fun E9 => E9 = "java/lang/IndexOutOfBoundsException") (va_A [(h, .inr (13, [.ref pe, .ref ne, .ref pa, .ref ro, .int dy])), (pa, .inr (4, [.int mc, .ref el, .int 0]))] sz)) 1 6 (va_A [(h, .inr (13, [.ref pe, .ref ne, .ref pa, .ref ro, .int dy])), (pa, .inr (4, [.int mc, .ref el, .int 0]))] sz) := by
  refine vx_ofW (cc := cX8_vote) (maxL := 5) (ret := (some .char)) (by decide) rfl ?_
  intro p e s m args below meth c s₁ B hml htb hv
  obtain ⟨rfl, hsz, hP, hK, hD0, hZ, hN⟩ := hv
  have hx := B.exec
  have hb := B.bytes
  have hr := B.returns
  have hts := atoms_spec (ws := wzX8_vote) B.pre
  have hown : s.vm.findClass RX8 = some m.cls := findClass_of_methodNamed B.named
  have hlocks := B.notSynchronized
  subst hsz
  have hD := hD0.self (sz := s.heap.size)
  generalize hAe : va_A [(h, .inr (13, [.ref pe, .ref ne, .ref pa, .ref ro, .int dy])), (pa, .inr (4, [.int mc, .ref el, .int 0]))] s.heap.size = A at hD hZ ⊢
  have hA : ∀ q : Nat, s.heap.size ≤ q → A q := fun q h => by rw [← hAe]; exact Or.inr h
  have hS : va_S A s.heap s.heap [] := va_S.rf
  have hP : va_P D vwCl [(h, .inr (13, [.ref pe, .ref ne, .ref pa, .ref ro, .int dy])), (pa, .inr (4, [.int mc, .ref el, .int 0]))] s.heap := hP
  have hl := lv_entry ([.ref h, .int p0, .int p1, .int p2]) (n := 5) (Nat.le_of_ble_eq_true rfl)
  rw [lg_entry_eq]
  generalize (lg_sl ([.ref h, .int p0, .int p1, .int p2]) ++ List.replicate (5 - (lg_sl ([.ref h, .int p0, .int p1, .int p2])).length) Slot.unset).toArray = ls at hl ⊢
  have hl : lv_has ls 5 [(0, .ref h), (1, .int p0), (2, .int p1), (3, .int p2)] := hl
  refine lv_aload_n hx hb dX8_vote_0 rfl (lv_at hl 0 rfl) ?_
  refine lv_iload_n hx hb dX8_vote_1 rfl (lv_at hl 1 rfl) ?_
  have hPc := hP.sub (ws' := [(h, .inr (13, [.ref pe, .ref ne, .ref pa, .ref ro, .int dy])), (pa, .inr (4, [.int mc, .ref el, .int 0]))]) [0, 1] rfl
  have hDc := hD.sub (ws' := [(h, .inr (13, [.ref pe, .ref ne, .ref pa, .ref ro, .int dy])), (pa, .inr (4, [.int mc, .ref el, .int 0]))]) [0, 1] (by decide) rfl
  have hFc := va_free (wc := [(h, .inr (13, [.ref pe, .ref ne, .ref pa, .ref ro, .int dy])), (pa, .inr (4, [.int mc, .ref el, .int 0]))]) hD hS hA [0, 1] rfl
  refine vx_callq (vx_runV (As := [.int p0]) (rest := []) ⟨hx, hb, hml, hown, hts⟩ (c_X8_paperAt l hst D cy ed s.heap.size h pe ne pa ro dy mc el p0) (cwV 1 hts (zx_GV mm_845 mm_847 mm_8 mm_71 mm_848) rfl rfl rfl (by decide +kernel) ⟨(Nat.le_of_ble_eq_true rfl), (Nat.le_of_ble_eq_true rfl)⟩) ⟨zx_blind, va_recv hK hPc (ci := 13) (q0 := 0) rfl rfl, zx_give hPc hK hDc hS hFc hZ hN⟩ rfl rfl hl.1 rfl (lv_room (Nat.le_of_ble_eq_true rfl)) dX8_vote_2 ⟨(Nat.le_of_ble_eq_true rfl), (Nat.le_of_ble_eq_true rfl)⟩) hS (fun q _ h => hFc q h) hFc (fun q _ h => hFc q h) (fun E9 ce9 q9 _ t H locs ht hvm _ hBX hz1 hk1 hS hce hcv hcl => ?_) (fun r9 u t H locs ht hvm hw hB hz1 hk1 hS => ?_)
  · exact vx_out (fun x9 h9 => absurd h9 (htb x9)) hlocks hce hcv hcl (zx_pass (P := (fun E9 => E9 = "java/lang/IndexOutOfBoundsException")) hS (hBX)) hS.2.2 (Nat.le_of_ble_eq_true rfl) (Nat.le_of_ble_eq_true rfl)
  · exact hw.elim
set_option maxHeartbeats 4000000 in
set_option maxRecDepth 100000 in
theorem c_X8_sees (l : Launch) (hst : l.stackTraces = false) (D : va_G) (cy : Nat → ClassId) (ed sz : Nat) (h : Nat) (pe : Nat) (ne : Nat) (pa : Nat) (ro : Nat) (dy : Int32) (a1 : Nat) (a2 : Nat) (a3 : Nat) (a4 : Nat) (a5 : Nat) (a6 : Nat) (a7 : Nat) (a8 : Nat) (a9 : Nat) (p0 : Int32) (p1 : Int32) (p2 : Int32) : vx_Met l yX8_sees wzX8_sees ({ frames := 7, cells := 1, slots := 6, locals := 102 }) (zx_Pc D cy ed sz [.ref h, .int p0, .int p1, .int p2] [(h, .inr (13, [.ref pe, .ref ne, .ref pa, .ref ro, .int dy])), (pe, .inr (9, [.int 0, .ref a1, .ref a2, .ref a3, .ref a4, .ref a5, .ref a6, .ref a7, .ref a8, .ref a9]))]) (va_Qi (fun (_ : Int32) (_ : Unit) => False) (fun (u9 : Unit) (t9 : State) => zx_At D cy (va_A [(h, .inr (13, [.ref pe, .ref ne, .ref pa, .ref ro, .int dy])), (pe, .inr (9, [.int 0, .ref a1, .ref a2, .ref a3, .ref a4, .ref a5, .ref a6, .ref a7, .ref a8, .ref a9]))] sz) [] t9) (va_A [(h, .inr (13, [.ref pe, .ref ne, .ref pa, .ref ro, .int dy])), (pe, .inr (9, [.int 0, .ref a1, .ref a2, .ref a3, .ref a4, .ref a5, .ref a6, .ref a7, .ref a8, .ref a9]))] sz)) (zx_X (fun E9 => E9 = "java/lang/IndexOutOfBoundsException") (va_A [(h, .inr (13, [.ref pe, .ref ne, .ref pa, .ref ro, .int dy])), (pe, .inr (9, [.int 0, .ref a1, .ref a2, .ref a3, .ref a4, .ref a5, .ref a6, .ref a7, .ref a8, .ref a9]))] sz)) 1 6 (va_A [(h, .inr (13, [.ref pe, .ref ne, .ref pa, .ref ro, .int dy])), (pe, .inr (9, [.int 0, .ref a1, .ref a2, .ref a3, .ref a4, .ref a5, .ref a6, .ref a7, .ref a8, .ref a9]))] sz) := by
  refine vx_ofW (cc := cX8_sees) (maxL := 5) (ret := (some .boolean)) (by decide) rfl ?_
  intro p e s m args below meth c s₁ B hml htb hv
  obtain ⟨rfl, hsz, hP, hK, hD0, hZ, hN⟩ := hv
  have hx := B.exec
  have hb := B.bytes
  have hr := B.returns
  have hts := atoms_spec (ws := wzX8_sees) B.pre
  have hown : s.vm.findClass RX8 = some m.cls := findClass_of_methodNamed B.named
  have hlocks := B.notSynchronized
  subst hsz
  have hD := hD0.self (sz := s.heap.size)
  generalize hAe : va_A [(h, .inr (13, [.ref pe, .ref ne, .ref pa, .ref ro, .int dy])), (pe, .inr (9, [.int 0, .ref a1, .ref a2, .ref a3, .ref a4, .ref a5, .ref a6, .ref a7, .ref a8, .ref a9]))] s.heap.size = A at hD hZ ⊢
  have hA : ∀ q : Nat, s.heap.size ≤ q → A q := fun q h => by rw [← hAe]; exact Or.inr h
  have hS : va_S A s.heap s.heap [] := va_S.rf
  have hP : va_P D vwCl [(h, .inr (13, [.ref pe, .ref ne, .ref pa, .ref ro, .int dy])), (pe, .inr (9, [.int 0, .ref a1, .ref a2, .ref a3, .ref a4, .ref a5, .ref a6, .ref a7, .ref a8, .ref a9]))] s.heap := hP
  have hl := lv_entry ([.ref h, .int p0, .int p1, .int p2]) (n := 5) (Nat.le_of_ble_eq_true rfl)
  rw [lg_entry_eq]
  generalize (lg_sl ([.ref h, .int p0, .int p1, .int p2]) ++ List.replicate (5 - (lg_sl ([.ref h, .int p0, .int p1, .int p2])).length) Slot.unset).toArray = ls at hl ⊢
  have hl : lv_has ls 5 [(0, .ref h), (1, .int p0), (2, .int p1), (3, .int p2)] := hl
  refine lv_aload_n hx hb dX8_sees_0 rfl (lv_at hl 0 rfl) ?_
  refine lv_iload_n hx hb dX8_sees_1 rfl (lv_at hl 1 rfl) ?_
  have hPc := hP.sub (ws' := [(h, .inr (13, [.ref pe, .ref ne, .ref pa, .ref ro, .int dy])), (pe, .inr (9, [.int 0, .ref a1, .ref a2, .ref a3, .ref a4, .ref a5, .ref a6, .ref a7, .ref a8, .ref a9]))]) [0, 1] rfl
  have hDc := hD.sub (ws' := [(h, .inr (13, [.ref pe, .ref ne, .ref pa, .ref ro, .int dy])), (pe, .inr (9, [.int 0, .ref a1, .ref a2, .ref a3, .ref a4, .ref a5, .ref a6, .ref a7, .ref a8, .ref a9]))]) [0, 1] (by decide) rfl
  have hFc := va_free (wc := [(h, .inr (13, [.ref pe, .ref ne, .ref pa, .ref ro, .int dy])), (pe, .inr (9, [.int 0, .ref a1, .ref a2, .ref a3, .ref a4, .ref a5, .ref a6, .ref a7, .ref a8, .ref a9]))]) hD hS hA [0, 1] rfl
  refine vx_callv (vx_runV (As := [.int p0]) (rest := []) ⟨hx, hb, hml, hown, hts⟩ (c_X8_needPerson l hst D cy ed s.heap.size h pe ne pa ro dy a1 a2 a3 a4 a5 a6 a7 a8 a9 p0) (cwV 1 hts (zx_GV mm_469 mm_471 mm_2 mm_71 mm_472) rfl rfl rfl (by decide +kernel) ⟨(Nat.le_of_ble_eq_true rfl), (Nat.le_of_ble_eq_true rfl)⟩) ⟨zx_blind, va_recv hK hPc (ci := 13) (q0 := 0) rfl rfl, zx_give hPc hK hDc hS hFc hZ hN⟩ rfl rfl hl.1 rfl (lv_room (Nat.le_of_ble_eq_true rfl)) dX8_sees_2 ⟨(Nat.le_of_ble_eq_true rfl), (Nat.le_of_ble_eq_true rfl)⟩) hS (fun q _ h => hFc q h) hFc (fun q _ h => hFc q h) (fun E9 ce9 q9 _ t H locs ht hvm _ hBX hz1 hk1 hS hce hcv hcl => ?_) (fun u t H locs ht hvm hw hB hz1 hk1 hS => ?_)
  · exact vx_out (fun x9 h9 => absurd h9 (htb x9)) hlocks hce hcv hcl (zx_pass (P := (fun E9 => E9 = "java/lang/IndexOutOfBoundsException")) hS (hBX)) hS.2.2 (Nat.le_of_ble_eq_true rfl) (Nat.le_of_ble_eq_true rfl)
  · exact hw.elim
set_option maxHeartbeats 4000000 in
set_option maxRecDepth 100000 in
theorem c_X8_correct (l : Launch) (hst : l.stackTraces = false) (D : va_G) (cy : Nat → ClassId) (ed sz : Nat) (h : Nat) (pe : Nat) (ne : Nat) (pa : Nat) (ro : Nat) (dy : Int32) (mc : Int32) (el : Nat) (p0 : Int32) (p1 : Int32) : vx_Met l yX8_correct wzX8_correct ({ frames := 8, cells := 1, slots := 6, locals := 123 }) (zx_Pc D cy ed sz [.ref h, .int p0, .int p1] [(h, .inr (13, [.ref pe, .ref ne, .ref pa, .ref ro, .int dy])), (pa, .inr (4, [.int mc, .ref el, .int 0]))]) (va_Qi (fun (_ : Int32) (_ : Unit) => False) (fun (u9 : Unit) (t9 : State) => zx_At D cy (va_A [(h, .inr (13, [.ref pe, .ref ne, .ref pa, .ref ro, .int dy])), (pa, .inr (4, [.int mc, .ref el, .int 0]))] sz) [] t9) (va_A [(h, .inr (13, [.ref pe, .ref ne, .ref pa, .ref ro, .int dy])), (pa, .inr (4, [.int mc, .ref el, .int 0]))] sz)) (zx_X (fun E9 => E9 = "java/lang/IndexOutOfBoundsException") (va_A [(h, .inr (13, [.ref pe, .ref ne, .ref pa, .ref ro, .int dy])), (pa, .inr (4, [.int mc, .ref el, .int 0]))] sz)) 1 6 (va_A [(h, .inr (13, [.ref pe, .ref ne, .ref pa, .ref ro, .int dy])), (pa, .inr (4, [.int mc, .ref el, .int 0]))] sz) := by
  refine vx_ofW (cc := cX8_correct) (maxL := 4) (ret := (some .int)) (by decide) rfl ?_
  intro p e s m args below meth c s₁ B hml htb hv
  obtain ⟨rfl, hsz, hP, hK, hD0, hZ, hN⟩ := hv
  have hx := B.exec
  have hb := B.bytes
  have hr := B.returns
  have hts := atoms_spec (ws := wzX8_correct) B.pre
  have hown : s.vm.findClass RX8 = some m.cls := findClass_of_methodNamed B.named
  have hlocks := B.notSynchronized
  subst hsz
  have hD := hD0.self (sz := s.heap.size)
  generalize hAe : va_A [(h, .inr (13, [.ref pe, .ref ne, .ref pa, .ref ro, .int dy])), (pa, .inr (4, [.int mc, .ref el, .int 0]))] s.heap.size = A at hD hZ ⊢
  have hA : ∀ q : Nat, s.heap.size ≤ q → A q := fun q h => by rw [← hAe]; exact Or.inr h
  have hS : va_S A s.heap s.heap [] := va_S.rf
  have hP : va_P D vwCl [(h, .inr (13, [.ref pe, .ref ne, .ref pa, .ref ro, .int dy])), (pa, .inr (4, [.int mc, .ref el, .int 0]))] s.heap := hP
  have hl := lv_entry ([.ref h, .int p0, .int p1]) (n := 4) (Nat.le_of_ble_eq_true rfl)
  rw [lg_entry_eq]
  generalize (lg_sl ([.ref h, .int p0, .int p1]) ++ List.replicate (4 - (lg_sl ([.ref h, .int p0, .int p1])).length) Slot.unset).toArray = ls at hl ⊢
  have hl : lv_has ls 4 [(0, .ref h), (1, .int p0), (2, .int p1)] := hl
  refine lv_aload_n hx hb dX8_correct_0 rfl (lv_at hl 0 rfl) ?_
  refine lv_iload_n hx hb dX8_correct_1 rfl (lv_at hl 1 rfl) ?_
  have hPc := hP.sub (ws' := [(h, .inr (13, [.ref pe, .ref ne, .ref pa, .ref ro, .int dy])), (pa, .inr (4, [.int mc, .ref el, .int 0]))]) [0, 1] rfl
  have hDc := hD.sub (ws' := [(h, .inr (13, [.ref pe, .ref ne, .ref pa, .ref ro, .int dy])), (pa, .inr (4, [.int mc, .ref el, .int 0]))]) [0, 1] (by decide) rfl
  have hFc := va_free (wc := [(h, .inr (13, [.ref pe, .ref ne, .ref pa, .ref ro, .int dy])), (pa, .inr (4, [.int mc, .ref el, .int 0]))]) hD hS hA [0, 1] rfl
  refine vx_callq (vx_runV (As := [.int p0]) (rest := []) ⟨hx, hb, hml, hown, hts⟩ (c_X8_paperAt l hst D cy ed s.heap.size h pe ne pa ro dy mc el p0) (cwV 1 hts (zx_GV mm_845 mm_847 mm_8 mm_71 mm_848) rfl rfl rfl (by decide +kernel) ⟨(Nat.le_of_ble_eq_true rfl), (Nat.le_of_ble_eq_true rfl)⟩) ⟨zx_blind, va_recv hK hPc (ci := 13) (q0 := 0) rfl rfl, zx_give hPc hK hDc hS hFc hZ hN⟩ rfl rfl hl.1 rfl (lv_room (Nat.le_of_ble_eq_true rfl)) dX8_correct_2 ⟨(Nat.le_of_ble_eq_true rfl), (Nat.le_of_ble_eq_true rfl)⟩) hS (fun q _ h => hFc q h) hFc (fun q _ h => hFc q h) (fun E9 ce9 q9 _ t H locs ht hvm _ hBX hz1 hk1 hS hce hcv hcl => ?_) (fun r9 u t H locs ht hvm hw hB hz1 hk1 hS => ?_)
  · exact vx_out (fun x9 h9 => absurd h9 (htb x9)) hlocks hce hcv hcl (zx_pass (P := (fun E9 => E9 = "java/lang/IndexOutOfBoundsException")) hS (hBX)) hS.2.2 (Nat.le_of_ble_eq_true rfl) (Nat.le_of_ble_eq_true rfl)
  · exact hw.elim
set_option maxHeartbeats 4000000 in
set_option maxRecDepth 100000 in
theorem c_X8_dropCitation (l : Launch) (hst : l.stackTraces = false) (D : va_G) (cy : Nat → ClassId) (ed sz : Nat) (h : Nat) (pe : Nat) (ne : Nat) (pa : Nat) (ro : Nat) (dy : Int32) (mc : Int32) (el : Nat) (p0 : Int32) (p1 : Int32) : vx_Met l yX8_dropCitation wzX8_dropCitation ({ frames := 8, cells := 1, slots := 6, locals := 123 }) (zx_Pc D cy ed sz [.ref h, .int p0, .int p1] [(h, .inr (13, [.ref pe, .ref ne, .ref pa, .ref ro, .int dy])), (pa, .inr (4, [.int mc, .ref el, .int 0]))]) (va_Qi (fun (_ : Int32) (_ : Unit) => False) (fun (u9 : Unit) (t9 : State) => zx_At D cy (va_A [(h, .inr (13, [.ref pe, .ref ne, .ref pa, .ref ro, .int dy])), (pa, .inr (4, [.int mc, .ref el, .int 0]))] sz) [] t9) (va_A [(h, .inr (13, [.ref pe, .ref ne, .ref pa, .ref ro, .int dy])), (pa, .inr (4, [.int mc, .ref el, .int 0]))] sz)) (zx_X (fun E9 => E9 = "java/lang/IndexOutOfBoundsException") (va_A [(h, .inr (13, [.ref pe, .ref ne, .ref pa, .ref ro, .int dy])), (pa, .inr (4, [.int mc, .ref el, .int 0]))] sz)) 1 6 (va_A [(h, .inr (13, [.ref pe, .ref ne, .ref pa, .ref ro, .int dy])), (pa, .inr (4, [.int mc, .ref el, .int 0]))] sz) := by
  refine vx_ofW (cc := cX8_dropCitation) (maxL := 4) (ret := (some .int)) (by decide) rfl ?_
  intro p e s m args below meth c s₁ B hml htb hv
  obtain ⟨rfl, hsz, hP, hK, hD0, hZ, hN⟩ := hv
  have hx := B.exec
  have hb := B.bytes
  have hr := B.returns
  have hts := atoms_spec (ws := wzX8_dropCitation) B.pre
  have hown : s.vm.findClass RX8 = some m.cls := findClass_of_methodNamed B.named
  have hlocks := B.notSynchronized
  subst hsz
  have hD := hD0.self (sz := s.heap.size)
  generalize hAe : va_A [(h, .inr (13, [.ref pe, .ref ne, .ref pa, .ref ro, .int dy])), (pa, .inr (4, [.int mc, .ref el, .int 0]))] s.heap.size = A at hD hZ ⊢
  have hA : ∀ q : Nat, s.heap.size ≤ q → A q := fun q h => by rw [← hAe]; exact Or.inr h
  have hS : va_S A s.heap s.heap [] := va_S.rf
  have hP : va_P D vwCl [(h, .inr (13, [.ref pe, .ref ne, .ref pa, .ref ro, .int dy])), (pa, .inr (4, [.int mc, .ref el, .int 0]))] s.heap := hP
  have hl := lv_entry ([.ref h, .int p0, .int p1]) (n := 4) (Nat.le_of_ble_eq_true rfl)
  rw [lg_entry_eq]
  generalize (lg_sl ([.ref h, .int p0, .int p1]) ++ List.replicate (4 - (lg_sl ([.ref h, .int p0, .int p1])).length) Slot.unset).toArray = ls at hl ⊢
  have hl : lv_has ls 4 [(0, .ref h), (1, .int p0), (2, .int p1)] := hl
  refine lv_aload_n hx hb dX8_dropCitation_0 rfl (lv_at hl 0 rfl) ?_
  refine lv_iload_n hx hb dX8_dropCitation_1 rfl (lv_at hl 1 rfl) ?_
  have hPc := hP.sub (ws' := [(h, .inr (13, [.ref pe, .ref ne, .ref pa, .ref ro, .int dy])), (pa, .inr (4, [.int mc, .ref el, .int 0]))]) [0, 1] rfl
  have hDc := hD.sub (ws' := [(h, .inr (13, [.ref pe, .ref ne, .ref pa, .ref ro, .int dy])), (pa, .inr (4, [.int mc, .ref el, .int 0]))]) [0, 1] (by decide) rfl
  have hFc := va_free (wc := [(h, .inr (13, [.ref pe, .ref ne, .ref pa, .ref ro, .int dy])), (pa, .inr (4, [.int mc, .ref el, .int 0]))]) hD hS hA [0, 1] rfl
  refine vx_callq (vx_runV (As := [.int p0]) (rest := []) ⟨hx, hb, hml, hown, hts⟩ (c_X8_paperAt l hst D cy ed s.heap.size h pe ne pa ro dy mc el p0) (cwV 1 hts (zx_GV mm_845 mm_847 mm_8 mm_71 mm_848) rfl rfl rfl (by decide +kernel) ⟨(Nat.le_of_ble_eq_true rfl), (Nat.le_of_ble_eq_true rfl)⟩) ⟨zx_blind, va_recv hK hPc (ci := 13) (q0 := 0) rfl rfl, zx_give hPc hK hDc hS hFc hZ hN⟩ rfl rfl hl.1 rfl (lv_room (Nat.le_of_ble_eq_true rfl)) dX8_dropCitation_2 ⟨(Nat.le_of_ble_eq_true rfl), (Nat.le_of_ble_eq_true rfl)⟩) hS (fun q _ h => hFc q h) hFc (fun q _ h => hFc q h) (fun E9 ce9 q9 _ t H locs ht hvm _ hBX hz1 hk1 hS hce hcv hcl => ?_) (fun r9 u t H locs ht hvm hw hB hz1 hk1 hS => ?_)
  · exact vx_out (fun x9 h9 => absurd h9 (htb x9)) hlocks hce hcv hcl (zx_pass (P := (fun E9 => E9 = "java/lang/IndexOutOfBoundsException")) hS (hBX)) hS.2.2 (Nat.le_of_ble_eq_true rfl) (Nat.le_of_ble_eq_true rfl)
  · exact hw.elim
set_option maxHeartbeats 4000000 in
set_option maxRecDepth 100000 in
theorem c_X8_publicVersion (l : Launch) (hst : l.stackTraces = false) (D : va_G) (cy : Nat → ClassId) (ed sz : Nat) (h : Nat) (pe : Nat) (ne : Nat) (pa : Nat) (ro : Nat) (dy : Int32) (mc : Int32) (el : Nat) (p0 : Int32) : vx_Met l yX8_publicVersion wzX8_publicVersion ({ frames := 8, cells := 1, slots := 6, locals := 123 }) (zx_Pc D cy ed sz [.ref h, .int p0] [(h, .inr (13, [.ref pe, .ref ne, .ref pa, .ref ro, .int dy])), (pa, .inr (4, [.int mc, .ref el, .int 0]))]) (va_Qi (fun (_ : Int32) (_ : Unit) => False) (fun (u9 : Unit) (t9 : State) => zx_At D cy (va_A [(h, .inr (13, [.ref pe, .ref ne, .ref pa, .ref ro, .int dy])), (pa, .inr (4, [.int mc, .ref el, .int 0]))] sz) [] t9) (va_A [(h, .inr (13, [.ref pe, .ref ne, .ref pa, .ref ro, .int dy])), (pa, .inr (4, [.int mc, .ref el, .int 0]))] sz)) (zx_X (fun E9 => E9 = "java/lang/IndexOutOfBoundsException") (va_A [(h, .inr (13, [.ref pe, .ref ne, .ref pa, .ref ro, .int dy])), (pa, .inr (4, [.int mc, .ref el, .int 0]))] sz)) 1 6 (va_A [(h, .inr (13, [.ref pe, .ref ne, .ref pa, .ref ro, .int dy])), (pa, .inr (4, [.int mc, .ref el, .int 0]))] sz) := by
  refine vx_ofW (cc := cX8_publicVersion) (maxL := 3) (ret := (some .int)) (by decide) rfl ?_
  intro p e s m args below meth c s₁ B hml htb hv
  obtain ⟨rfl, hsz, hP, hK, hD0, hZ, hN⟩ := hv
  have hx := B.exec
  have hb := B.bytes
  have hr := B.returns
  have hts := atoms_spec (ws := wzX8_publicVersion) B.pre
  have hown : s.vm.findClass RX8 = some m.cls := findClass_of_methodNamed B.named
  have hlocks := B.notSynchronized
  subst hsz
  have hD := hD0.self (sz := s.heap.size)
  generalize hAe : va_A [(h, .inr (13, [.ref pe, .ref ne, .ref pa, .ref ro, .int dy])), (pa, .inr (4, [.int mc, .ref el, .int 0]))] s.heap.size = A at hD hZ ⊢
  have hA : ∀ q : Nat, s.heap.size ≤ q → A q := fun q h => by rw [← hAe]; exact Or.inr h
  have hS : va_S A s.heap s.heap [] := va_S.rf
  have hP : va_P D vwCl [(h, .inr (13, [.ref pe, .ref ne, .ref pa, .ref ro, .int dy])), (pa, .inr (4, [.int mc, .ref el, .int 0]))] s.heap := hP
  have hl := lv_entry ([.ref h, .int p0]) (n := 3) (Nat.le_of_ble_eq_true rfl)
  rw [lg_entry_eq]
  generalize (lg_sl ([.ref h, .int p0]) ++ List.replicate (3 - (lg_sl ([.ref h, .int p0])).length) Slot.unset).toArray = ls at hl ⊢
  have hl : lv_has ls 3 [(0, .ref h), (1, .int p0)] := hl
  refine lv_aload_n hx hb dX8_publicVersion_0 rfl (lv_at hl 0 rfl) ?_
  refine lv_iload_n hx hb dX8_publicVersion_1 rfl (lv_at hl 1 rfl) ?_
  have hPc := hP.sub (ws' := [(h, .inr (13, [.ref pe, .ref ne, .ref pa, .ref ro, .int dy])), (pa, .inr (4, [.int mc, .ref el, .int 0]))]) [0, 1] rfl
  have hDc := hD.sub (ws' := [(h, .inr (13, [.ref pe, .ref ne, .ref pa, .ref ro, .int dy])), (pa, .inr (4, [.int mc, .ref el, .int 0]))]) [0, 1] (by decide) rfl
  have hFc := va_free (wc := [(h, .inr (13, [.ref pe, .ref ne, .ref pa, .ref ro, .int dy])), (pa, .inr (4, [.int mc, .ref el, .int 0]))]) hD hS hA [0, 1] rfl
  refine vx_callq (vx_runV (As := [.int p0]) (rest := []) ⟨hx, hb, hml, hown, hts⟩ (c_X8_paperAt l hst D cy ed s.heap.size h pe ne pa ro dy mc el p0) (cwV 1 hts (zx_GV mm_845 mm_847 mm_8 mm_71 mm_848) rfl rfl rfl (by decide +kernel) ⟨(Nat.le_of_ble_eq_true rfl), (Nat.le_of_ble_eq_true rfl)⟩) ⟨zx_blind, va_recv hK hPc (ci := 13) (q0 := 0) rfl rfl, zx_give hPc hK hDc hS hFc hZ hN⟩ rfl rfl hl.1 rfl (lv_room (Nat.le_of_ble_eq_true rfl)) dX8_publicVersion_2 ⟨(Nat.le_of_ble_eq_true rfl), (Nat.le_of_ble_eq_true rfl)⟩) hS (fun q _ h => hFc q h) hFc (fun q _ h => hFc q h) (fun E9 ce9 q9 _ t H locs ht hvm _ hBX hz1 hk1 hS hce hcv hcl => ?_) (fun r9 u t H locs ht hvm hw hB hz1 hk1 hS => ?_)
  · exact vx_out (fun x9 h9 => absurd h9 (htb x9)) hlocks hce hcv hcl (zx_pass (P := (fun E9 => E9 = "java/lang/IndexOutOfBoundsException")) hS (hBX)) hS.2.2 (Nat.le_of_ble_eq_true rfl) (Nat.le_of_ble_eq_true rfl)
  · exact hw.elim
set_option maxHeartbeats 4000000 in
set_option maxRecDepth 100000 in
theorem c_X8_index (l : Launch) (hst : l.stackTraces = false) (D : va_G) (cy : Nat → ClassId) (ed sz : Nat) (h : Nat) (pe : Nat) (ne : Nat) (pa : Nat) (ro : Nat) (dy : Int32) (a1 : Nat) (a2 : Nat) (a3 : Nat) (a4 : Nat) (a5 : Nat) (a6 : Nat) (a7 : Nat) (a8 : Nat) (a9 : Nat) (p0 : Int32) : vx_Met l yX8_index wzX8_index ({ frames := 7, cells := 1, slots := 6, locals := 102 }) (zx_Pc D cy ed sz [.ref h, .int p0] [(h, .inr (13, [.ref pe, .ref ne, .ref pa, .ref ro, .int dy])), (pe, .inr (9, [.int 0, .ref a1, .ref a2, .ref a3, .ref a4, .ref a5, .ref a6, .ref a7, .ref a8, .ref a9]))]) (va_Qi (fun (_ : Int32) (_ : Unit) => False) (fun (u9 : Unit) (t9 : State) => zx_At D cy (va_A [(h, .inr (13, [.ref pe, .ref ne, .ref pa, .ref ro, .int dy])), (pe, .inr (9, [.int 0, .ref a1, .ref a2, .ref a3, .ref a4, .ref a5, .ref a6, .ref a7, .ref a8, .ref a9]))] sz) [] t9) (va_A [(h, .inr (13, [.ref pe, .ref ne, .ref pa, .ref ro, .int dy])), (pe, .inr (9, [.int 0, .ref a1, .ref a2, .ref a3, .ref a4, .ref a5, .ref a6, .ref a7, .ref a8, .ref a9]))] sz)) (zx_X (fun E9 => E9 = "java/lang/IndexOutOfBoundsException") (va_A [(h, .inr (13, [.ref pe, .ref ne, .ref pa, .ref ro, .int dy])), (pe, .inr (9, [.int 0, .ref a1, .ref a2, .ref a3, .ref a4, .ref a5, .ref a6, .ref a7, .ref a8, .ref a9]))] sz)) 1 6 (va_A [(h, .inr (13, [.ref pe, .ref ne, .ref pa, .ref ro, .int dy])), (pe, .inr (9, [.int 0, .ref a1, .ref a2, .ref a3, .ref a4, .ref a5, .ref a6, .ref a7, .ref a8, .ref a9]))] sz) := by
  refine vx_ofW (cc := cX8_index) (maxL := 4) (ret := (some .int)) (by decide) rfl ?_
  intro p e s m args below meth c s₁ B hml htb hv
  obtain ⟨rfl, hsz, hP, hK, hD0, hZ, hN⟩ := hv
  have hx := B.exec
  have hb := B.bytes
  have hr := B.returns
  have hts := atoms_spec (ws := wzX8_index) B.pre
  have hown : s.vm.findClass RX8 = some m.cls := findClass_of_methodNamed B.named
  have hlocks := B.notSynchronized
  subst hsz
  have hD := hD0.self (sz := s.heap.size)
  generalize hAe : va_A [(h, .inr (13, [.ref pe, .ref ne, .ref pa, .ref ro, .int dy])), (pe, .inr (9, [.int 0, .ref a1, .ref a2, .ref a3, .ref a4, .ref a5, .ref a6, .ref a7, .ref a8, .ref a9]))] s.heap.size = A at hD hZ ⊢
  have hA : ∀ q : Nat, s.heap.size ≤ q → A q := fun q h => by rw [← hAe]; exact Or.inr h
  have hS : va_S A s.heap s.heap [] := va_S.rf
  have hP : va_P D vwCl [(h, .inr (13, [.ref pe, .ref ne, .ref pa, .ref ro, .int dy])), (pe, .inr (9, [.int 0, .ref a1, .ref a2, .ref a3, .ref a4, .ref a5, .ref a6, .ref a7, .ref a8, .ref a9]))] s.heap := hP
  have hl := lv_entry ([.ref h, .int p0]) (n := 4) (Nat.le_of_ble_eq_true rfl)
  rw [lg_entry_eq]
  generalize (lg_sl ([.ref h, .int p0]) ++ List.replicate (4 - (lg_sl ([.ref h, .int p0])).length) Slot.unset).toArray = ls at hl ⊢
  have hl : lv_has ls 4 [(0, .ref h), (1, .int p0)] := hl
  refine lv_aload_n hx hb dX8_index_0 rfl (lv_at hl 0 rfl) ?_
  refine lv_iload_n hx hb dX8_index_1 rfl (lv_at hl 1 rfl) ?_
  have hPc := hP.sub (ws' := [(h, .inr (13, [.ref pe, .ref ne, .ref pa, .ref ro, .int dy])), (pe, .inr (9, [.int 0, .ref a1, .ref a2, .ref a3, .ref a4, .ref a5, .ref a6, .ref a7, .ref a8, .ref a9]))]) [0, 1] rfl
  have hDc := hD.sub (ws' := [(h, .inr (13, [.ref pe, .ref ne, .ref pa, .ref ro, .int dy])), (pe, .inr (9, [.int 0, .ref a1, .ref a2, .ref a3, .ref a4, .ref a5, .ref a6, .ref a7, .ref a8, .ref a9]))]) [0, 1] (by decide) rfl
  have hFc := va_free (wc := [(h, .inr (13, [.ref pe, .ref ne, .ref pa, .ref ro, .int dy])), (pe, .inr (9, [.int 0, .ref a1, .ref a2, .ref a3, .ref a4, .ref a5, .ref a6, .ref a7, .ref a8, .ref a9]))]) hD hS hA [0, 1] rfl
  refine vx_callv (vx_runV (As := [.int p0]) (rest := []) ⟨hx, hb, hml, hown, hts⟩ (c_X8_needPerson l hst D cy ed s.heap.size h pe ne pa ro dy a1 a2 a3 a4 a5 a6 a7 a8 a9 p0) (cwV 1 hts (zx_GV mm_469 mm_471 mm_2 mm_71 mm_472) rfl rfl rfl (by decide +kernel) ⟨(Nat.le_of_ble_eq_true rfl), (Nat.le_of_ble_eq_true rfl)⟩) ⟨zx_blind, va_recv hK hPc (ci := 13) (q0 := 0) rfl rfl, zx_give hPc hK hDc hS hFc hZ hN⟩ rfl rfl hl.1 rfl (lv_room (Nat.le_of_ble_eq_true rfl)) dX8_index_2 ⟨(Nat.le_of_ble_eq_true rfl), (Nat.le_of_ble_eq_true rfl)⟩) hS (fun q _ h => hFc q h) hFc (fun q _ h => hFc q h) (fun E9 ce9 q9 _ t H locs ht hvm _ hBX hz1 hk1 hS hce hcv hcl => ?_) (fun u t H locs ht hvm hw hB hz1 hk1 hS => ?_)
  · exact vx_out (fun x9 h9 => absurd h9 (htb x9)) hlocks hce hcv hcl (zx_pass (P := (fun E9 => E9 = "java/lang/IndexOutOfBoundsException")) hS (hBX)) hS.2.2 (Nat.le_of_ble_eq_true rfl) (Nat.le_of_ble_eq_true rfl)
  · exact hw.elim
set_option maxHeartbeats 4000000 in
set_option maxRecDepth 100000 in
theorem c_X8_circle (l : Launch) (hst : l.stackTraces = false) (D : va_G) (cy : Nat → ClassId) (ed sz : Nat) (h : Nat) (pe : Nat) (ne : Nat) (pa : Nat) (ro : Nat) (dy : Int32) (a1 : Nat) (a2 : Nat) (a3 : Nat) (a4 : Nat) (a5 : Nat) (a6 : Nat) (a7 : Nat) (a8 : Nat) (a9 : Nat) (p0 : Int32) : vx_Met l yX8_circle wzX8_circle ({ frames := 7, cells := 1, slots := 6, locals := 102 }) (zx_Pc D cy ed sz [.ref h, .int p0] [(h, .inr (13, [.ref pe, .ref ne, .ref pa, .ref ro, .int dy])), (pe, .inr (9, [.int 0, .ref a1, .ref a2, .ref a3, .ref a4, .ref a5, .ref a6, .ref a7, .ref a8, .ref a9]))]) (va_Qi (fun (_ : Int32) (_ : Unit) => False) (fun (u9 : Unit) (t9 : State) => zx_At D cy (va_A [(h, .inr (13, [.ref pe, .ref ne, .ref pa, .ref ro, .int dy])), (pe, .inr (9, [.int 0, .ref a1, .ref a2, .ref a3, .ref a4, .ref a5, .ref a6, .ref a7, .ref a8, .ref a9]))] sz) [] t9) (va_A [(h, .inr (13, [.ref pe, .ref ne, .ref pa, .ref ro, .int dy])), (pe, .inr (9, [.int 0, .ref a1, .ref a2, .ref a3, .ref a4, .ref a5, .ref a6, .ref a7, .ref a8, .ref a9]))] sz)) (zx_X (fun E9 => E9 = "java/lang/IndexOutOfBoundsException") (va_A [(h, .inr (13, [.ref pe, .ref ne, .ref pa, .ref ro, .int dy])), (pe, .inr (9, [.int 0, .ref a1, .ref a2, .ref a3, .ref a4, .ref a5, .ref a6, .ref a7, .ref a8, .ref a9]))] sz)) 1 6 (va_A [(h, .inr (13, [.ref pe, .ref ne, .ref pa, .ref ro, .int dy])), (pe, .inr (9, [.int 0, .ref a1, .ref a2, .ref a3, .ref a4, .ref a5, .ref a6, .ref a7, .ref a8, .ref a9]))] sz) := by
  refine vx_ofW (cc := cX8_circle) (maxL := 4) (ret := (some .int)) (by decide) rfl ?_
  intro p e s m args below meth c s₁ B hml htb hv
  obtain ⟨rfl, hsz, hP, hK, hD0, hZ, hN⟩ := hv
  have hx := B.exec
  have hb := B.bytes
  have hr := B.returns
  have hts := atoms_spec (ws := wzX8_circle) B.pre
  have hown : s.vm.findClass RX8 = some m.cls := findClass_of_methodNamed B.named
  have hlocks := B.notSynchronized
  subst hsz
  have hD := hD0.self (sz := s.heap.size)
  generalize hAe : va_A [(h, .inr (13, [.ref pe, .ref ne, .ref pa, .ref ro, .int dy])), (pe, .inr (9, [.int 0, .ref a1, .ref a2, .ref a3, .ref a4, .ref a5, .ref a6, .ref a7, .ref a8, .ref a9]))] s.heap.size = A at hD hZ ⊢
  have hA : ∀ q : Nat, s.heap.size ≤ q → A q := fun q h => by rw [← hAe]; exact Or.inr h
  have hS : va_S A s.heap s.heap [] := va_S.rf
  have hP : va_P D vwCl [(h, .inr (13, [.ref pe, .ref ne, .ref pa, .ref ro, .int dy])), (pe, .inr (9, [.int 0, .ref a1, .ref a2, .ref a3, .ref a4, .ref a5, .ref a6, .ref a7, .ref a8, .ref a9]))] s.heap := hP
  have hl := lv_entry ([.ref h, .int p0]) (n := 4) (Nat.le_of_ble_eq_true rfl)
  rw [lg_entry_eq]
  generalize (lg_sl ([.ref h, .int p0]) ++ List.replicate (4 - (lg_sl ([.ref h, .int p0])).length) Slot.unset).toArray = ls at hl ⊢
  have hl : lv_has ls 4 [(0, .ref h), (1, .int p0)] := hl
  refine lv_aload_n hx hb dX8_circle_0 rfl (lv_at hl 0 rfl) ?_
  refine lv_iload_n hx hb dX8_circle_1 rfl (lv_at hl 1 rfl) ?_
  have hPc := hP.sub (ws' := [(h, .inr (13, [.ref pe, .ref ne, .ref pa, .ref ro, .int dy])), (pe, .inr (9, [.int 0, .ref a1, .ref a2, .ref a3, .ref a4, .ref a5, .ref a6, .ref a7, .ref a8, .ref a9]))]) [0, 1] rfl
  have hDc := hD.sub (ws' := [(h, .inr (13, [.ref pe, .ref ne, .ref pa, .ref ro, .int dy])), (pe, .inr (9, [.int 0, .ref a1, .ref a2, .ref a3, .ref a4, .ref a5, .ref a6, .ref a7, .ref a8, .ref a9]))]) [0, 1] (by decide) rfl
  have hFc := va_free (wc := [(h, .inr (13, [.ref pe, .ref ne, .ref pa, .ref ro, .int dy])), (pe, .inr (9, [.int 0, .ref a1, .ref a2, .ref a3, .ref a4, .ref a5, .ref a6, .ref a7, .ref a8, .ref a9]))]) hD hS hA [0, 1] rfl
  refine vx_callv (vx_runV (As := [.int p0]) (rest := []) ⟨hx, hb, hml, hown, hts⟩ (c_X8_needPerson l hst D cy ed s.heap.size h pe ne pa ro dy a1 a2 a3 a4 a5 a6 a7 a8 a9 p0) (cwV 1 hts (zx_GV mm_469 mm_471 mm_2 mm_71 mm_472) rfl rfl rfl (by decide +kernel) ⟨(Nat.le_of_ble_eq_true rfl), (Nat.le_of_ble_eq_true rfl)⟩) ⟨zx_blind, va_recv hK hPc (ci := 13) (q0 := 0) rfl rfl, zx_give hPc hK hDc hS hFc hZ hN⟩ rfl rfl hl.1 rfl (lv_room (Nat.le_of_ble_eq_true rfl)) dX8_circle_2 ⟨(Nat.le_of_ble_eq_true rfl), (Nat.le_of_ble_eq_true rfl)⟩) hS (fun q _ h => hFc q h) hFc (fun q _ h => hFc q h) (fun E9 ce9 q9 _ t H locs ht hvm _ hBX hz1 hk1 hS hce hcv hcl => ?_) (fun u t H locs ht hvm hw hB hz1 hk1 hS => ?_)
  · exact vx_out (fun x9 h9 => absurd h9 (htb x9)) hlocks hce hcv hcl (zx_pass (P := (fun E9 => E9 = "java/lang/IndexOutOfBoundsException")) hS (hBX)) hS.2.2 (Nat.le_of_ble_eq_true rfl) (Nat.le_of_ble_eq_true rfl)
  · exact hw.elim
set_option maxHeartbeats 4000000 in
set_option maxRecDepth 100000 in
theorem c_X8_state (l : Launch) (hst : l.stackTraces = false) (D : va_G) (cy : Nat → ClassId) (ed sz : Nat) (h : Nat) (pe : Nat) (ne : Nat) (pa : Nat) (ro : Nat) (dy : Int32) (mc : Int32) (el : Nat) (p0 : Int32) : vx_Met l yX8_state wzX8_state ({ frames := 8, cells := 1, slots := 6, locals := 123 }) (zx_Pc D cy ed sz [.ref h, .int p0] [(h, .inr (13, [.ref pe, .ref ne, .ref pa, .ref ro, .int dy])), (pa, .inr (4, [.int mc, .ref el, .int 0]))]) (va_Qi (fun (_ : Int32) (_ : Unit) => False) (fun (u9 : Unit) (t9 : State) => zx_At D cy (va_A [(h, .inr (13, [.ref pe, .ref ne, .ref pa, .ref ro, .int dy])), (pa, .inr (4, [.int mc, .ref el, .int 0]))] sz) [] t9) (va_A [(h, .inr (13, [.ref pe, .ref ne, .ref pa, .ref ro, .int dy])), (pa, .inr (4, [.int mc, .ref el, .int 0]))] sz)) (zx_X (fun E9 => E9 = "java/lang/IndexOutOfBoundsException") (va_A [(h, .inr (13, [.ref pe, .ref ne, .ref pa, .ref ro, .int dy])), (pa, .inr (4, [.int mc, .ref el, .int 0]))] sz)) 1 6 (va_A [(h, .inr (13, [.ref pe, .ref ne, .ref pa, .ref ro, .int dy])), (pa, .inr (4, [.int mc, .ref el, .int 0]))] sz) := by
  refine vx_ofW (cc := cX8_state) (maxL := 3) (ret := (some .char)) (by decide) rfl ?_
  intro p e s m args below meth c s₁ B hml htb hv
  obtain ⟨rfl, hsz, hP, hK, hD0, hZ, hN⟩ := hv
  have hx := B.exec
  have hb := B.bytes
  have hr := B.returns
  have hts := atoms_spec (ws := wzX8_state) B.pre
  have hown : s.vm.findClass RX8 = some m.cls := findClass_of_methodNamed B.named
  have hlocks := B.notSynchronized
  subst hsz
  have hD := hD0.self (sz := s.heap.size)
  generalize hAe : va_A [(h, .inr (13, [.ref pe, .ref ne, .ref pa, .ref ro, .int dy])), (pa, .inr (4, [.int mc, .ref el, .int 0]))] s.heap.size = A at hD hZ ⊢
  have hA : ∀ q : Nat, s.heap.size ≤ q → A q := fun q h => by rw [← hAe]; exact Or.inr h
  have hS : va_S A s.heap s.heap [] := va_S.rf
  have hP : va_P D vwCl [(h, .inr (13, [.ref pe, .ref ne, .ref pa, .ref ro, .int dy])), (pa, .inr (4, [.int mc, .ref el, .int 0]))] s.heap := hP
  have hl := lv_entry ([.ref h, .int p0]) (n := 3) (Nat.le_of_ble_eq_true rfl)
  rw [lg_entry_eq]
  generalize (lg_sl ([.ref h, .int p0]) ++ List.replicate (3 - (lg_sl ([.ref h, .int p0])).length) Slot.unset).toArray = ls at hl ⊢
  have hl : lv_has ls 3 [(0, .ref h), (1, .int p0)] := hl
  refine lv_aload_n hx hb dX8_state_0 rfl (lv_at hl 0 rfl) ?_
  refine lv_iload_n hx hb dX8_state_1 rfl (lv_at hl 1 rfl) ?_
  have hPc := hP.sub (ws' := [(h, .inr (13, [.ref pe, .ref ne, .ref pa, .ref ro, .int dy])), (pa, .inr (4, [.int mc, .ref el, .int 0]))]) [0, 1] rfl
  have hDc := hD.sub (ws' := [(h, .inr (13, [.ref pe, .ref ne, .ref pa, .ref ro, .int dy])), (pa, .inr (4, [.int mc, .ref el, .int 0]))]) [0, 1] (by decide) rfl
  have hFc := va_free (wc := [(h, .inr (13, [.ref pe, .ref ne, .ref pa, .ref ro, .int dy])), (pa, .inr (4, [.int mc, .ref el, .int 0]))]) hD hS hA [0, 1] rfl
  refine vx_callq (vx_runV (As := [.int p0]) (rest := []) ⟨hx, hb, hml, hown, hts⟩ (c_X8_paperAt l hst D cy ed s.heap.size h pe ne pa ro dy mc el p0) (cwV 1 hts (zx_GV mm_845 mm_847 mm_8 mm_71 mm_848) rfl rfl rfl (by decide +kernel) ⟨(Nat.le_of_ble_eq_true rfl), (Nat.le_of_ble_eq_true rfl)⟩) ⟨zx_blind, va_recv hK hPc (ci := 13) (q0 := 0) rfl rfl, zx_give hPc hK hDc hS hFc hZ hN⟩ rfl rfl hl.1 rfl (lv_room (Nat.le_of_ble_eq_true rfl)) dX8_state_2 ⟨(Nat.le_of_ble_eq_true rfl), (Nat.le_of_ble_eq_true rfl)⟩) hS (fun q _ h => hFc q h) hFc (fun q _ h => hFc q h) (fun E9 ce9 q9 _ t H locs ht hvm _ hBX hz1 hk1 hS hce hcv hcl => ?_) (fun r9 u t H locs ht hvm hw hB hz1 hk1 hS => ?_)
  · exact vx_out (fun x9 h9 => absurd h9 (htb x9)) hlocks hce hcv hcl (zx_pass (P := (fun E9 => E9 = "java/lang/IndexOutOfBoundsException")) hS (hBX)) hS.2.2 (Nat.le_of_ble_eq_true rfl) (Nat.le_of_ble_eq_true rfl)
  · exact hw.elim
set_option maxHeartbeats 4000000 in
set_option maxRecDepth 100000 in
theorem c_X8_letters (l : Launch) (hst : l.stackTraces = false) (D : va_G) (cy : Nat → ClassId) (ed sz : Nat) (h : Nat) (pe : Nat) (ne : Nat) (pa : Nat) (ro : Nat) (dy : Int32) (mc : Int32) (el : Nat) (p0 : Int32) : vx_Met l yX8_letters wzX8_letters ({ frames := 8, cells := 1, slots := 6, locals := 123 }) (zx_Pc D cy ed sz [.ref h, .int p0] [(h, .inr (13, [.ref pe, .ref ne, .ref pa, .ref ro, .int dy])), (pa, .inr (4, [.int mc, .ref el, .int 0]))]) (va_Qi (fun (_ : Int32) (_ : Unit) => False) (fun (u9 : Unit) (t9 : State) => zx_At D cy (va_A [(h, .inr (13, [.ref pe, .ref ne, .ref pa, .ref ro, .int dy])), (pa, .inr (4, [.int mc, .ref el, .int 0]))] sz) [] t9) (va_A [(h, .inr (13, [.ref pe, .ref ne, .ref pa, .ref ro, .int dy])), (pa, .inr (4, [.int mc, .ref el, .int 0]))] sz)) (zx_X (fun E9 => E9 = "java/lang/IndexOutOfBoundsException") (va_A [(h, .inr (13, [.ref pe, .ref ne, .ref pa, .ref ro, .int dy])), (pa, .inr (4, [.int mc, .ref el, .int 0]))] sz)) 1 6 (va_A [(h, .inr (13, [.ref pe, .ref ne, .ref pa, .ref ro, .int dy])), (pa, .inr (4, [.int mc, .ref el, .int 0]))] sz) := by
  refine vx_ofW (cc := cX8_letters) (maxL := 3) (ret := (some .int)) (by decide) rfl ?_
  intro p e s m args below meth c s₁ B hml htb hv
  obtain ⟨rfl, hsz, hP, hK, hD0, hZ, hN⟩ := hv
  have hx := B.exec
  have hb := B.bytes
  have hr := B.returns
  have hts := atoms_spec (ws := wzX8_letters) B.pre
  have hown : s.vm.findClass RX8 = some m.cls := findClass_of_methodNamed B.named
  have hlocks := B.notSynchronized
  subst hsz
  have hD := hD0.self (sz := s.heap.size)
  generalize hAe : va_A [(h, .inr (13, [.ref pe, .ref ne, .ref pa, .ref ro, .int dy])), (pa, .inr (4, [.int mc, .ref el, .int 0]))] s.heap.size = A at hD hZ ⊢
  have hA : ∀ q : Nat, s.heap.size ≤ q → A q := fun q h => by rw [← hAe]; exact Or.inr h
  have hS : va_S A s.heap s.heap [] := va_S.rf
  have hP : va_P D vwCl [(h, .inr (13, [.ref pe, .ref ne, .ref pa, .ref ro, .int dy])), (pa, .inr (4, [.int mc, .ref el, .int 0]))] s.heap := hP
  have hl := lv_entry ([.ref h, .int p0]) (n := 3) (Nat.le_of_ble_eq_true rfl)
  rw [lg_entry_eq]
  generalize (lg_sl ([.ref h, .int p0]) ++ List.replicate (3 - (lg_sl ([.ref h, .int p0])).length) Slot.unset).toArray = ls at hl ⊢
  have hl : lv_has ls 3 [(0, .ref h), (1, .int p0)] := hl
  refine lv_aload_n hx hb dX8_letters_0 rfl (lv_at hl 0 rfl) ?_
  refine lv_iload_n hx hb dX8_letters_1 rfl (lv_at hl 1 rfl) ?_
  have hPc := hP.sub (ws' := [(h, .inr (13, [.ref pe, .ref ne, .ref pa, .ref ro, .int dy])), (pa, .inr (4, [.int mc, .ref el, .int 0]))]) [0, 1] rfl
  have hDc := hD.sub (ws' := [(h, .inr (13, [.ref pe, .ref ne, .ref pa, .ref ro, .int dy])), (pa, .inr (4, [.int mc, .ref el, .int 0]))]) [0, 1] (by decide) rfl
  have hFc := va_free (wc := [(h, .inr (13, [.ref pe, .ref ne, .ref pa, .ref ro, .int dy])), (pa, .inr (4, [.int mc, .ref el, .int 0]))]) hD hS hA [0, 1] rfl
  refine vx_callq (vx_runV (As := [.int p0]) (rest := []) ⟨hx, hb, hml, hown, hts⟩ (c_X8_paperAt l hst D cy ed s.heap.size h pe ne pa ro dy mc el p0) (cwV 1 hts (zx_GV mm_845 mm_847 mm_8 mm_71 mm_848) rfl rfl rfl (by decide +kernel) ⟨(Nat.le_of_ble_eq_true rfl), (Nat.le_of_ble_eq_true rfl)⟩) ⟨zx_blind, va_recv hK hPc (ci := 13) (q0 := 0) rfl rfl, zx_give hPc hK hDc hS hFc hZ hN⟩ rfl rfl hl.1 rfl (lv_room (Nat.le_of_ble_eq_true rfl)) dX8_letters_2 ⟨(Nat.le_of_ble_eq_true rfl), (Nat.le_of_ble_eq_true rfl)⟩) hS (fun q _ h => hFc q h) hFc (fun q _ h => hFc q h) (fun E9 ce9 q9 _ t H locs ht hvm _ hBX hz1 hk1 hS hce hcv hcl => ?_) (fun r9 u t H locs ht hvm hw hB hz1 hk1 hS => ?_)
  · exact vx_out (fun x9 h9 => absurd h9 (htb x9)) hlocks hce hcv hcl (zx_pass (P := (fun E9 => E9 = "java/lang/IndexOutOfBoundsException")) hS (hBX)) hS.2.2 (Nat.le_of_ble_eq_true rfl) (Nat.le_of_ble_eq_true rfl)
  · exact hw.elim
set_option maxHeartbeats 4000000 in
set_option maxRecDepth 100000 in
theorem c_X8_letter (l : Launch) (hst : l.stackTraces = false) (D : va_G) (cy : Nat → ClassId) (ed sz : Nat) (h : Nat) (pe : Nat) (ne : Nat) (pa : Nat) (ro : Nat) (dy : Int32) (mc : Int32) (el : Nat) (p0 : Int32) (p1 : Int32) : vx_Met l yX8_letter wzX8_letter ({ frames := 8, cells := 1, slots := 6, locals := 123 }) (zx_Pc D cy ed sz [.ref h, .int p0, .int p1] [(h, .inr (13, [.ref pe, .ref ne, .ref pa, .ref ro, .int dy])), (pa, .inr (4, [.int mc, .ref el, .int 0]))]) (va_Qi (fun (_ : Int32) (_ : Unit) => False) (fun (u9 : Unit) (t9 : State) => zx_At D cy (va_A [(h, .inr (13, [.ref pe, .ref ne, .ref pa, .ref ro, .int dy])), (pa, .inr (4, [.int mc, .ref el, .int 0]))] sz) [] t9) (va_A [(h, .inr (13, [.ref pe, .ref ne, .ref pa, .ref ro, .int dy])), (pa, .inr (4, [.int mc, .ref el, .int 0]))] sz)) (zx_X (fun E9 => E9 = "java/lang/IndexOutOfBoundsException") (va_A [(h, .inr (13, [.ref pe, .ref ne, .ref pa, .ref ro, .int dy])), (pa, .inr (4, [.int mc, .ref el, .int 0]))] sz)) 1 6 (va_A [(h, .inr (13, [.ref pe, .ref ne, .ref pa, .ref ro, .int dy])), (pa, .inr (4, [.int mc, .ref el, .int 0]))] sz) := by
  refine vx_ofW (cc := cX8_letter) (maxL := 4) (ret := (some .char)) (by decide) rfl ?_
  intro p e s m args below meth c s₁ B hml htb hv
  obtain ⟨rfl, hsz, hP, hK, hD0, hZ, hN⟩ := hv
  have hx := B.exec
  have hb := B.bytes
  have hr := B.returns
  have hts := atoms_spec (ws := wzX8_letter) B.pre
  have hown : s.vm.findClass RX8 = some m.cls := findClass_of_methodNamed B.named
  have hlocks := B.notSynchronized
  subst hsz
  have hD := hD0.self (sz := s.heap.size)
  generalize hAe : va_A [(h, .inr (13, [.ref pe, .ref ne, .ref pa, .ref ro, .int dy])), (pa, .inr (4, [.int mc, .ref el, .int 0]))] s.heap.size = A at hD hZ ⊢
  have hA : ∀ q : Nat, s.heap.size ≤ q → A q := fun q h => by rw [← hAe]; exact Or.inr h
  have hS : va_S A s.heap s.heap [] := va_S.rf
  have hP : va_P D vwCl [(h, .inr (13, [.ref pe, .ref ne, .ref pa, .ref ro, .int dy])), (pa, .inr (4, [.int mc, .ref el, .int 0]))] s.heap := hP
  have hl := lv_entry ([.ref h, .int p0, .int p1]) (n := 4) (Nat.le_of_ble_eq_true rfl)
  rw [lg_entry_eq]
  generalize (lg_sl ([.ref h, .int p0, .int p1]) ++ List.replicate (4 - (lg_sl ([.ref h, .int p0, .int p1])).length) Slot.unset).toArray = ls at hl ⊢
  have hl : lv_has ls 4 [(0, .ref h), (1, .int p0), (2, .int p1)] := hl
  refine lv_aload_n hx hb dX8_letter_0 rfl (lv_at hl 0 rfl) ?_
  refine lv_iload_n hx hb dX8_letter_1 rfl (lv_at hl 1 rfl) ?_
  have hPc := hP.sub (ws' := [(h, .inr (13, [.ref pe, .ref ne, .ref pa, .ref ro, .int dy])), (pa, .inr (4, [.int mc, .ref el, .int 0]))]) [0, 1] rfl
  have hDc := hD.sub (ws' := [(h, .inr (13, [.ref pe, .ref ne, .ref pa, .ref ro, .int dy])), (pa, .inr (4, [.int mc, .ref el, .int 0]))]) [0, 1] (by decide) rfl
  have hFc := va_free (wc := [(h, .inr (13, [.ref pe, .ref ne, .ref pa, .ref ro, .int dy])), (pa, .inr (4, [.int mc, .ref el, .int 0]))]) hD hS hA [0, 1] rfl
  refine vx_callq (vx_runV (As := [.int p0]) (rest := []) ⟨hx, hb, hml, hown, hts⟩ (c_X8_paperAt l hst D cy ed s.heap.size h pe ne pa ro dy mc el p0) (cwV 1 hts (zx_GV mm_845 mm_847 mm_8 mm_71 mm_848) rfl rfl rfl (by decide +kernel) ⟨(Nat.le_of_ble_eq_true rfl), (Nat.le_of_ble_eq_true rfl)⟩) ⟨zx_blind, va_recv hK hPc (ci := 13) (q0 := 0) rfl rfl, zx_give hPc hK hDc hS hFc hZ hN⟩ rfl rfl hl.1 rfl (lv_room (Nat.le_of_ble_eq_true rfl)) dX8_letter_2 ⟨(Nat.le_of_ble_eq_true rfl), (Nat.le_of_ble_eq_true rfl)⟩) hS (fun q _ h => hFc q h) hFc (fun q _ h => hFc q h) (fun E9 ce9 q9 _ t H locs ht hvm _ hBX hz1 hk1 hS hce hcv hcl => ?_) (fun r9 u t H locs ht hvm hw hB hz1 hk1 hS => ?_)
  · exact vx_out (fun x9 h9 => absurd h9 (htb x9)) hlocks hce hcv hcl (zx_pass (P := (fun E9 => E9 = "java/lang/IndexOutOfBoundsException")) hS (hBX)) hS.2.2 (Nat.le_of_ble_eq_true rfl) (Nat.le_of_ble_eq_true rfl)
  · exact hw.elim
set_option maxHeartbeats 4000000 in
set_option maxRecDepth 100000 in
theorem c_X4_enter (l : Launch) (hst : l.stackTraces = false) (D : va_G) (cy : Nat → ClassId) (ed sz : Nat) (pe : Nat) (a1 : Nat) (a2 : Nat) (a3 : Nat) (a4 : Nat) (a5 : Nat) (a6 : Nat) (a7 : Nat) (a8 : Nat) (a9 : Nat) (f1 : Nat → Int32) (f2 : Nat → Int32) (p0 : Int32) (p1 : Int32) : Met l yX4_enter wzX4_enter ({ frames := 0, cells := 0, slots := 0, locals := 0 }) (zx_Pc D cy ed sz [.ref pe, .int p0, .int p1] [(pe, .inr (9, [.int 0, .ref a1, .ref a2, .ref a3, .ref a4, .ref a5, .ref a6, .ref a7, .ref a8, .ref a9])), (a1, .inl (cy 0, 20, .inl f1)), (a2, .inl (cy 0, 20, .inl f2))]) (va_Qi (fun (r9 : Int32) (u9 : Unit) => r9 = 0) (fun (u9 : Unit) (t9 : State) => zx_At D cy (va_A [(pe, .inr (9, [.int 0, .ref a1, .ref a2, .ref a3, .ref a4, .ref a5, .ref a6, .ref a7, .ref a8, .ref a9])), (a1, .inl (cy 0, 20, .inl f1)), (a2, .inl (cy 0, 20, .inl f2))] sz) [] t9) (va_A [(pe, .inr (9, [.int 0, .ref a1, .ref a2, .ref a3, .ref a4, .ref a5, .ref a6, .ref a7, .ref a8, .ref a9])), (a1, .inl (cy 0, 20, .inl f1)), (a2, .inl (cy 0, 20, .inl f2))] sz)) 0 0 (va_A [(pe, .inr (9, [.int 0, .ref a1, .ref a2, .ref a3, .ref a4, .ref a5, .ref a6, .ref a7, .ref a8, .ref a9])), (a1, .inl (cy 0, 20, .inl f1)), (a2, .inl (cy 0, 20, .inl f2))] sz) := by
  refine Met.ofW (cc := cX4_enter) (maxL := 3) (ret := (some .int)) (by decide) rfl ?_
  intro p e s m args below meth c s₁ B hml hv
  obtain ⟨rfl, hsz, hP, hK, hD0, hZ, hN⟩ := hv
  have hx := B.exec
  have hb := B.bytes
  have hr := B.returns
  have hts := atoms_spec (ws := wzX4_enter) B.pre
  have hown : s.vm.findClass RX4 = some m.cls := findClass_of_methodNamed B.named
  have hlocks := B.notSynchronized
  subst hsz
  have hD := hD0.self (sz := s.heap.size)
  generalize hAe : va_A [(pe, .inr (9, [.int 0, .ref a1, .ref a2, .ref a3, .ref a4, .ref a5, .ref a6, .ref a7, .ref a8, .ref a9])), (a1, .inl (cy 0, 20, .inl f1)), (a2, .inl (cy 0, 20, .inl f2))] s.heap.size = A at hD hZ ⊢
  have hA : ∀ q : Nat, s.heap.size ≤ q → A q := fun q h => by rw [← hAe]; exact Or.inr h
  have hS : va_S A s.heap s.heap [] := va_S.rf
  have hP : va_P D vwCl [(pe, .inr (9, [.int 0, .ref a1, .ref a2, .ref a3, .ref a4, .ref a5, .ref a6, .ref a7, .ref a8, .ref a9])), (a1, .inl (cy 0, 20, .inl f1)), (a2, .inl (cy 0, 20, .inl f2))] s.heap := hP
  have hl := lv_entry ([.ref pe, .int p0, .int p1]) (n := 3) (Nat.le_of_ble_eq_true rfl)
  rw [lg_entry_eq]
  generalize (lg_sl ([.ref pe, .int p0, .int p1]) ++ List.replicate (3 - (lg_sl ([.ref pe, .int p0, .int p1])).length) Slot.unset).toArray = ls at hl ⊢
  have hl : lv_has ls 3 [(0, .ref pe), (1, .int p0), (2, .int p1)] := hl
  refine lv_aload_n hx hb dX4_enter_0 rfl (lv_at hl 0 rfl) ?_
  refine va_get (D := D) (ci := 9) (v := .int 0) (C := RX4) (T := TX4) (N := 10) hx hb hts (fun w h => zx_Gc (uz_X4 w h)) hown hK hP 0 rfl rfl 0 (by decide) (hts (.fieldLink RX4 9 "Refereehall$People" "count" "I") (zx_Gc mm_130)) (fun _ h9 => h9) rfl dX4_enter_1 ?_
  refine lv_bipush (v := 20) hx hb dX4_enter_4 (by decide) ?_
  refine lv_icmp_lt (tgt := 14) hx hb dX4_enter_6 (by decide) (fun _ => ?_) (fun c_149 => absurd (by decide) c_149)
  refine lv_aload_n hx hb dX4_enter_14 rfl (lv_at hl 0 rfl) ?_
  refine va_get (D := D) (ci := 9) (v := .ref a1) (C := RX4) (T := TX4) (N := 10) hx hb hts (fun w h => zx_Gc (uz_X4 w h)) hown hK hP 0 rfl rfl 1 (by decide) (hts (.fieldLink RX4 15 "Refereehall$People" "house" "[I") (zx_Gc mm_132)) (fun _ h9 => h9) rfl dX4_enter_15 ?_
  refine lv_aload_n hx hb dX4_enter_18 rfl (lv_at hl 0 rfl) ?_
  refine va_get (D := D) (ci := 9) (v := .int 0) (C := RX4) (T := TX4) (N := 10) hx hb hts (fun w h => zx_Gc (uz_X4 w h)) hown hK hP 0 rfl rfl 0 (by decide) (hts (.fieldLink RX4 9 "Refereehall$People" "count" "I") (zx_Gc mm_130)) (fun _ h9 => h9) rfl dX4_enter_19 ?_
  refine lv_iload_n hx hb dX4_enter_22 rfl (lv_at hl 1 rfl) ?_
  refine va_iast hx hb hK hP hD hS 1 0 rfl rfl (zx_bn (by decide)) dX4_enter_23 (fun H locs hP hD hS => ?_)
  have hP : va_P D vwCl [(pe, .inr (9, [.int 0, .ref a1, .ref a2, .ref a3, .ref a4, .ref a5, .ref a6, .ref a7, .ref a8, .ref a9])), (a1, .inl (cy 0, 20, .inl (upd f1 (0 : Int32).toNatClampNeg p0))), (a2, .inl (cy 0, 20, .inl f2))] H := hP
  have hD : va_D A [(pe, .inr (9, [.int 0, .ref a1, .ref a2, .ref a3, .ref a4, .ref a5, .ref a6, .ref a7, .ref a8, .ref a9])), (a1, .inl (cy 0, 20, .inl (upd f1 (0 : Int32).toNatClampNeg p0))), (a2, .inl (cy 0, 20, .inl f2))] := hD
  refine lv_aload_n hx hb dX4_enter_24 rfl (lv_at hl 0 rfl) ?_
  refine va_get (D := D) (ci := 9) (v := .ref a2) (C := RX4) (T := TX4) (N := 10) hx hb hts (fun w h => zx_Gc (uz_X4 w h)) hown hK hP 0 rfl rfl 2 (by decide) (hts (.fieldLink RX4 19 "Refereehall$People" "words" "[I") (zx_Gc mm_134)) (fun _ h9 => h9) rfl dX4_enter_25 ?_
  refine lv_aload_n hx hb dX4_enter_28 rfl (lv_at hl 0 rfl) ?_
  refine va_get (D := D) (ci := 9) (v := .int 0) (C := RX4) (T := TX4) (N := 10) hx hb hts (fun w h => zx_Gc (uz_X4 w h)) hown hK hP 0 rfl rfl 0 (by decide) (hts (.fieldLink RX4 9 "Refereehall$People" "count" "I") (zx_Gc mm_130)) (fun _ h9 => h9) rfl dX4_enter_29 ?_
  refine lv_iload_n hx hb dX4_enter_32 rfl (lv_at hl 2 rfl) ?_
  refine va_iast hx hb hK hP hD hS 2 0 rfl rfl (zx_bn (by decide)) dX4_enter_33 (fun H locs hP hD hS => ?_)
  have hP : va_P D vwCl [(pe, .inr (9, [.int 0, .ref a1, .ref a2, .ref a3, .ref a4, .ref a5, .ref a6, .ref a7, .ref a8, .ref a9])), (a1, .inl (cy 0, 20, .inl (upd f1 (0 : Int32).toNatClampNeg p0))), (a2, .inl (cy 0, 20, .inl (upd f2 (0 : Int32).toNatClampNeg p1)))] H := hP
  have hD : va_D A [(pe, .inr (9, [.int 0, .ref a1, .ref a2, .ref a3, .ref a4, .ref a5, .ref a6, .ref a7, .ref a8, .ref a9])), (a1, .inl (cy 0, 20, .inl (upd f1 (0 : Int32).toNatClampNeg p0))), (a2, .inl (cy 0, 20, .inl (upd f2 (0 : Int32).toNatClampNeg p1)))] := hD
  refine lv_aload_n hx hb dX4_enter_34 rfl (lv_at hl 0 rfl) ?_
  refine lv_dup hx hb dX4_enter_35 rfl ?_
  refine va_get (D := D) (ci := 9) (v := .int 0) (C := RX4) (T := TX4) (N := 10) hx hb hts (fun w h => zx_Gc (uz_X4 w h)) hown hK hP 0 rfl rfl 0 (by decide) (hts (.fieldLink RX4 9 "Refereehall$People" "count" "I") (zx_Gc mm_130)) (fun _ h9 => h9) rfl dX4_enter_36 ?_
  refine lv_iconst (v := 1) hx hb dX4_enter_39 (by decide) ?_
  refine lv_iadd hx hb dX4_enter_40 ?_
  refine lv_topi (fun y9 ey9 => ?_)
  obtain rfl : y9 = 1 := by rw [ey9] <;> decide
  refine va_put (D := D) (ci := 9) (v := .int 1) (ty := .int) (C := RX4) (T := TX4) (N := 10) hx hb hts (fun w h => zx_Gc (uz_X4 w h)) tyX4 tyX4_ok nmX4 hown hK hP hD hS 0 rfl rfl 0 (by decide) (hts (.fieldLink RX4 9 "Refereehall$People" "count" "I") (zx_Gc mm_130)) (fun _ h9 => h9) rfl (by decide +kernel) rfl rfl (Nat.le_of_ble_eq_true rfl) dX4_enter_41 (fun H locs hP hD hS => ?_)
  have hP : va_P D vwCl [(pe, .inr (9, [.int 1, .ref a1, .ref a2, .ref a3, .ref a4, .ref a5, .ref a6, .ref a7, .ref a8, .ref a9])), (a1, .inl (cy 0, 20, .inl (upd f1 (0 : Int32).toNatClampNeg p0))), (a2, .inl (cy 0, 20, .inl (upd f2 (0 : Int32).toNatClampNeg p1)))] H := hP
  have hD : va_D A [(pe, .inr (9, [.int 1, .ref a1, .ref a2, .ref a3, .ref a4, .ref a5, .ref a6, .ref a7, .ref a8, .ref a9])), (a1, .inl (cy 0, 20, .inl (upd f1 (0 : Int32).toNatClampNeg p0))), (a2, .inl (cy 0, 20, .inl (upd f2 (0 : Int32).toNatClampNeg p1)))] := hD
  refine lv_aload_n hx hb dX4_enter_44 rfl (lv_at hl 0 rfl) ?_
  refine va_get (D := D) (ci := 9) (v := .int 1) (C := RX4) (T := TX4) (N := 10) hx hb hts (fun w h => zx_Gc (uz_X4 w h)) hown hK hP 0 rfl rfl 0 (by decide) (hts (.fieldLink RX4 9 "Refereehall$People" "count" "I") (zx_Gc mm_130)) (fun _ h9 => h9) rfl dX4_enter_45 ?_
  refine lv_iconst (v := 1) hx hb dX4_enter_48 (by decide) ?_
  refine lv_isub hx hb dX4_enter_49 ?_
  refine lv_topi (fun y9 ey9 => ?_)
  obtain rfl : y9 = 0 := by rw [ey9] <;> decide
  have hP9 := hP.sub (ws' := []) [] rfl
  have hD9 := hD.sub (ws' := []) [] (by decide) rfl
  exact W.iret (v := 0) hx hb hr (fun t ht hW => ⟨⟨0, (), rfl, rfl, zx_fin hP9 hD9 hK ht hW⟩, hS.F ht⟩) hS.2.2 dX4_enter_50
set_option maxHeartbeats 4000000 in
set_option maxRecDepth 100000 in
theorem c_X8_addPerson (l : Launch) (hst : l.stackTraces = false) (D : va_G) (cy : Nat → ClassId) (ed sz : Nat) (h : Nat) (pe : Nat) (ne : Nat) (pa : Nat) (ro : Nat) (dy : Int32) (a1 : Nat) (a2 : Nat) (a3 : Nat) (a4 : Nat) (a5 : Nat) (a6 : Nat) (a7 : Nat) (a8 : Nat) (a9 : Nat) (f1 : Nat → Int32) (f2 : Nat → Int32) (p0 : Int32) (p1 : Int32) : vx_Met l yX8_addPerson wzX8_addPerson ({ frames := 6, cells := 1, slots := 6, locals := 81 }) (zx_Pc D cy ed sz [.ref h, .int p0, .int p1] [(h, .inr (13, [.ref pe, .ref ne, .ref pa, .ref ro, .int dy])), (pe, .inr (9, [.int 0, .ref a1, .ref a2, .ref a3, .ref a4, .ref a5, .ref a6, .ref a7, .ref a8, .ref a9])), (a1, .inl (cy 0, 20, .inl f1)), (a2, .inl (cy 0, 20, .inl f2))]) (va_Qi (fun (r9 : Int32) (u9 : Unit) => r9 = 0 ∧ k_addPerson p0 p1 = 0) (fun (u9 : Unit) (t9 : State) => zx_At D cy (va_A [(h, .inr (13, [.ref pe, .ref ne, .ref pa, .ref ro, .int dy])), (pe, .inr (9, [.int 0, .ref a1, .ref a2, .ref a3, .ref a4, .ref a5, .ref a6, .ref a7, .ref a8, .ref a9])), (a1, .inl (cy 0, 20, .inl f1)), (a2, .inl (cy 0, 20, .inl f2))] sz) [] t9) (va_A [(h, .inr (13, [.ref pe, .ref ne, .ref pa, .ref ro, .int dy])), (pe, .inr (9, [.int 0, .ref a1, .ref a2, .ref a3, .ref a4, .ref a5, .ref a6, .ref a7, .ref a8, .ref a9])), (a1, .inl (cy 0, 20, .inl f1)), (a2, .inl (cy 0, 20, .inl f2))] sz)) (zx_X (fun E9 => (E9 = "java/lang/IllegalArgumentException" ∧ k_addPerson p0 p1 = 1)) (va_A [(h, .inr (13, [.ref pe, .ref ne, .ref pa, .ref ro, .int dy])), (pe, .inr (9, [.int 0, .ref a1, .ref a2, .ref a3, .ref a4, .ref a5, .ref a6, .ref a7, .ref a8, .ref a9])), (a1, .inl (cy 0, 20, .inl f1)), (a2, .inl (cy 0, 20, .inl f2))] sz)) 1 6 (va_A [(h, .inr (13, [.ref pe, .ref ne, .ref pa, .ref ro, .int dy])), (pe, .inr (9, [.int 0, .ref a1, .ref a2, .ref a3, .ref a4, .ref a5, .ref a6, .ref a7, .ref a8, .ref a9])), (a1, .inl (cy 0, 20, .inl f1)), (a2, .inl (cy 0, 20, .inl f2))] sz) := by
  refine vx_ofW (cc := cX8_addPerson) (maxL := 3) (ret := (some .int)) (by decide) rfl ?_
  intro p e s m args below meth c s₁ B hml htb hv
  obtain ⟨rfl, hsz, hP, hK, hD0, hZ, hN⟩ := hv
  have hx := B.exec
  have hb := B.bytes
  have hr := B.returns
  have hts := atoms_spec (ws := wzX8_addPerson) B.pre
  have hown : s.vm.findClass RX8 = some m.cls := findClass_of_methodNamed B.named
  have hlocks := B.notSynchronized
  subst hsz
  have hD := hD0.self (sz := s.heap.size)
  generalize hAe : va_A [(h, .inr (13, [.ref pe, .ref ne, .ref pa, .ref ro, .int dy])), (pe, .inr (9, [.int 0, .ref a1, .ref a2, .ref a3, .ref a4, .ref a5, .ref a6, .ref a7, .ref a8, .ref a9])), (a1, .inl (cy 0, 20, .inl f1)), (a2, .inl (cy 0, 20, .inl f2))] s.heap.size = A at hD hZ ⊢
  have hA : ∀ q : Nat, s.heap.size ≤ q → A q := fun q h => by rw [← hAe]; exact Or.inr h
  have hS : va_S A s.heap s.heap [] := va_S.rf
  have hP : va_P D vwCl [(h, .inr (13, [.ref pe, .ref ne, .ref pa, .ref ro, .int dy])), (pe, .inr (9, [.int 0, .ref a1, .ref a2, .ref a3, .ref a4, .ref a5, .ref a6, .ref a7, .ref a8, .ref a9])), (a1, .inl (cy 0, 20, .inl f1)), (a2, .inl (cy 0, 20, .inl f2))] s.heap := hP
  have hl := lv_entry ([.ref h, .int p0, .int p1]) (n := 3) (Nat.le_of_ble_eq_true rfl)
  rw [lg_entry_eq]
  generalize (lg_sl ([.ref h, .int p0, .int p1]) ++ List.replicate (3 - (lg_sl ([.ref h, .int p0, .int p1])).length) Slot.unset).toArray = ls at hl ⊢
  have hl : lv_has ls 3 [(0, .ref h), (1, .int p0), (2, .int p1)] := hl
  refine lv_iload_n hx hb dX8_addPerson_0 rfl (lv_at hl 1 rfl) ?_
  refine lv_iconst (v := 0) hx hb dX8_addPerson_1 (by decide) ?_
  refine lv_bipush (v := 9) hx hb dX8_addPerson_2 (by decide) ?_
  have hPc := hP.sub (ws' := []) [] rfl
  have hDc := hD.sub (ws' := []) [] (by decide) rfl
  have hFc := va_free (wc := []) hD hS hA [] rfl
  refine va_calli (va_runS (As := [.int p0, .int 0, .int 9]) (rest := []) ⟨hx, hb, hml, hown, hts⟩ (c_X8_isWithin l hst D cy ed s.heap.size p0 0 9) (va_cwS 3 hts (zx_GS mm_338 mm_339 mm_71 mm_340) rfl rfl rfl (by decide +kernel) ⟨(Nat.le_of_ble_eq_true rfl), (Nat.le_of_ble_eq_true rfl)⟩) ⟨zx_blind, zx_give hPc hK hDc hS hFc hZ hN⟩ rfl rfl hl.1 rfl (lv_room (Nat.le_of_ble_eq_true rfl)) dX8_addPerson_4 ⟨(Nat.le_of_ble_eq_true rfl), (Nat.le_of_ble_eq_true rfl)⟩) hS (fun q _ h => hFc q h) hFc (fun r9 u t H1 locs ht hvm hw hB hz1 hk1 hS => ?_)
  obtain rfl : r9 = (zx_in p0 0 9) := hw
  obtain ⟨hP, hD⟩ := zx_join (wr := [(h, .inr (13, [.ref pe, .ref ne, .ref pa, .ref ro, .int dy])), (pe, .inr (9, [.int 0, .ref a1, .ref a2, .ref a3, .ref a4, .ref a5, .ref a6, .ref a7, .ref a8, .ref a9])), (a1, .inl (cy 0, 20, .inl f1)), (a2, .inl (cy 0, 20, .inl f2))]) (w1 := []) [] [0, 1, 2, 3] rfl rfl (by decide) (by decide) hP hD hk1 hFc hB ht
  generalize H1 = H at hP hS ⊢
  have hP : va_P D vwCl [(h, .inr (13, [.ref pe, .ref ne, .ref pa, .ref ro, .int dy])), (pe, .inr (9, [.int 0, .ref a1, .ref a2, .ref a3, .ref a4, .ref a5, .ref a6, .ref a7, .ref a8, .ref a9])), (a1, .inl (cy 0, 20, .inl f1)), (a2, .inl (cy 0, 20, .inl f2))] H := hP
  have hD : va_D A [(h, .inr (13, [.ref pe, .ref ne, .ref pa, .ref ro, .int dy])), (pe, .inr (9, [.int 0, .ref a1, .ref a2, .ref a3, .ref a4, .ref a5, .ref a6, .ref a7, .ref a8, .ref a9])), (a1, .inl (cy 0, 20, .inl f1)), (a2, .inl (cy 0, 20, .inl f2))] := hD
  refine W.widen (k := 0) (n := 0) (Nat.le_of_ble_eq_true rfl) (Nat.le_of_ble_eq_true rfl) ?_
  refine lv_if_eq (tgt := 20) hx hb dX8_addPerson_7 (by decide) (fun c_150 => ?_) (fun c_150 => ?_)
  ·
    have hat9 : ∀ w ∈ (vx_at0 RX8 45 "java/lang/IllegalArgumentException" ["java/lang/RuntimeException", "java/lang/Exception"]).filter goodWord, w ∈ wzX8_addPerson := fun w h => zx_Gc (tw_RX8_45 w h)
    exact vx_throw0 (names := ["java/lang/RuntimeException", "java/lang/Exception"]) hx hb hst hown (by decide +kernel) (by decide +kernel) (hts (.classLink RX8 43 "java/lang/IllegalArgumentException") (zx_Gc mm_342)) (hts (.initialized "java/lang/IllegalArgumentException") (zx_Gc mm_82)) (vx_hat (B := (vx_at0 RX8 45 "java/lang/IllegalArgumentException" ["java/lang/RuntimeException", "java/lang/Exception"]).filter (fun w => !goodWord w)) (fun w9 h9 => hts w9 (hat9 w9 h9)) (fun _ h9 => h9) (zx_softs tv_RX8_45 hN)) (by decide +kernel) hZ.1 hZ.2.1 hS (hl.1.trans hml.symm) dX8_addPerson_20 dX8_addPerson_23 dX8_addPerson_24 dX8_addPerson_27 (fun x9 h9 => absurd h9 (htb x9)) (Nat.le_of_ble_eq_true rfl) (Nat.le_of_ble_eq_true rfl) (Nat.le_of_ble_eq_true rfl) (Nat.le_of_ble_eq_true rfl) hlocks (zx_thr (P := (fun E9 => (E9 = "java/lang/IllegalArgumentException" ∧ k_addPerson p0 p1 = 1))) hS (⟨rfl, (by simp [k_addPerson, c_150])⟩)) hS.2.2 (Nat.le_of_ble_eq_true rfl) (Nat.le_of_ble_eq_true rfl)
  ·
    refine lv_iload_n hx hb dX8_addPerson_10 rfl (lv_at hl 2 rfl) ?_
    refine lv_iconst (v := 0) hx hb dX8_addPerson_11 (by decide) ?_
    refine lv_ldc (v := 1048575) hx hb hown (hts (.constant RX8 42 (1048575)) (zx_Gc mm_341)) dX8_addPerson_12 ?_
    have hPc := hP.sub (ws' := []) [] rfl
    have hDc := hD.sub (ws' := []) [] (by decide) rfl
    have hFc := va_free (wc := []) hD hS hA [] rfl
    refine va_calli (va_runS (As := [.int p1, .int 0, .int 1048575]) (rest := []) ⟨hx, hb, hml, hown, hts⟩ (c_X8_isWithin l hst D cy ed H.size p1 0 1048575) (va_cwS 3 hts (zx_GS mm_338 mm_339 mm_71 mm_340) rfl rfl rfl (by decide +kernel) ⟨(Nat.le_of_ble_eq_true rfl), (Nat.le_of_ble_eq_true rfl)⟩) ⟨zx_blind, zx_give hPc hK hDc hS hFc hZ hN⟩ rfl rfl hl.1 rfl (lv_room (Nat.le_of_ble_eq_true rfl)) dX8_addPerson_14 ⟨(Nat.le_of_ble_eq_true rfl), (Nat.le_of_ble_eq_true rfl)⟩) hS (fun q _ h => hFc q h) hFc (fun r9 u t H1 locs ht hvm hw hB hz1 hk1 hS => ?_)
    obtain rfl : r9 = (zx_in p1 0 1048575) := hw
    obtain ⟨hP, hD⟩ := zx_join (wr := [(h, .inr (13, [.ref pe, .ref ne, .ref pa, .ref ro, .int dy])), (pe, .inr (9, [.int 0, .ref a1, .ref a2, .ref a3, .ref a4, .ref a5, .ref a6, .ref a7, .ref a8, .ref a9])), (a1, .inl (cy 0, 20, .inl f1)), (a2, .inl (cy 0, 20, .inl f2))]) (w1 := []) [] [0, 1, 2, 3] rfl rfl (by decide) (by decide) hP hD hk1 hFc hB ht
    generalize H1 = H at hP hS ⊢
    have hP : va_P D vwCl [(h, .inr (13, [.ref pe, .ref ne, .ref pa, .ref ro, .int dy])), (pe, .inr (9, [.int 0, .ref a1, .ref a2, .ref a3, .ref a4, .ref a5, .ref a6, .ref a7, .ref a8, .ref a9])), (a1, .inl (cy 0, 20, .inl f1)), (a2, .inl (cy 0, 20, .inl f2))] H := hP
    have hD : va_D A [(h, .inr (13, [.ref pe, .ref ne, .ref pa, .ref ro, .int dy])), (pe, .inr (9, [.int 0, .ref a1, .ref a2, .ref a3, .ref a4, .ref a5, .ref a6, .ref a7, .ref a8, .ref a9])), (a1, .inl (cy 0, 20, .inl f1)), (a2, .inl (cy 0, 20, .inl f2))] := hD
    refine W.widen (k := 0) (n := 0) (Nat.le_of_ble_eq_true rfl) (Nat.le_of_ble_eq_true rfl) ?_
    refine lv_if_ne (tgt := 28) hx hb dX8_addPerson_17 (by decide) (fun c_151 => ?_) (fun c_151 => ?_)
    ·
      refine lv_aload_n hx hb dX8_addPerson_28 rfl (lv_at hl 0 rfl) ?_
      refine va_get (D := D) (ci := 13) (v := .ref pe) (C := RX8) (T := TX8) (N := 5) hx hb hts (fun w h => zx_Gc (uz_X8 w h)) hown hK hP 0 rfl rfl 0 (by decide) (hts (.fieldLink RX8 10 "Refereehall" "people" "LRefereehall$People;") (zx_Gc mm_228)) (fun _ h9 => h9) rfl dX8_addPerson_29 ?_
      refine va_get (D := D) (ci := 9) (v := .int 0) (C := RX4) (T := TX4) (N := 10) hx hb hts (fun w h => zx_Gc (uz_X4 w h)) hown hK hP 1 rfl rfl 0 (by decide) (hts (.fieldLink RX8 46 "Refereehall$People" "count" "I") (zx_Gc mm_131)) (fun _ h9 => h9) rfl dX8_addPerson_32 ?_
      refine lv_bipush (v := 20) hx hb dX8_addPerson_35 (by decide) ?_
      refine lv_icmp_lt (tgt := 48) hx hb dX8_addPerson_37 (by decide) (fun _ => ?_) (fun c_152 => absurd (by decide) c_152)
      refine lv_aload_n hx hb dX8_addPerson_48 rfl (lv_at hl 0 rfl) ?_
      refine va_get (D := D) (ci := 13) (v := .ref pe) (C := RX8) (T := TX8) (N := 5) hx hb hts (fun w h => zx_Gc (uz_X8 w h)) hown hK hP 0 rfl rfl 0 (by decide) (hts (.fieldLink RX8 10 "Refereehall" "people" "LRefereehall$People;") (zx_Gc mm_228)) (fun _ h9 => h9) rfl dX8_addPerson_49 ?_
      refine lv_iload_n hx hb dX8_addPerson_52 rfl (lv_at hl 1 rfl) ?_
      refine lv_iload_n hx hb dX8_addPerson_53 rfl (lv_at hl 2 rfl) ?_
      have hPc := hP.sub (ws' := [(pe, .inr (9, [.int 0, .ref a1, .ref a2, .ref a3, .ref a4, .ref a5, .ref a6, .ref a7, .ref a8, .ref a9])), (a1, .inl (cy 0, 20, .inl f1)), (a2, .inl (cy 0, 20, .inl f2))]) [1, 2, 3] rfl
      have hDc := hD.sub (ws' := [(pe, .inr (9, [.int 0, .ref a1, .ref a2, .ref a3, .ref a4, .ref a5, .ref a6, .ref a7, .ref a8, .ref a9])), (a1, .inl (cy 0, 20, .inl f1)), (a2, .inl (cy 0, 20, .inl f2))]) [1, 2, 3] (by decide) rfl
      have hFc := va_free (wc := [(pe, .inr (9, [.int 0, .ref a1, .ref a2, .ref a3, .ref a4, .ref a5, .ref a6, .ref a7, .ref a8, .ref a9])), (a1, .inl (cy 0, 20, .inl f1)), (a2, .inl (cy 0, 20, .inl f2))]) hD hS hA [1, 2, 3] rfl
      refine va_calli (va_runV (As := [.int p0, .int p1]) (rest := []) ⟨hx, hb, hml, hown, hts⟩ (c_X4_enter l hst D cy ed H.size pe a1 a2 a3 a4 a5 a6 a7 a8 a9 f1 f2 p0 p1) (cwV 2 hts (zx_GV mm_425 mm_426 mm_427 mm_72 mm_428) rfl rfl rfl (by decide +kernel) ⟨(Nat.le_of_ble_eq_true rfl), (Nat.le_of_ble_eq_true rfl)⟩) ⟨zx_blind, va_recv hK hPc (ci := 9) (q0 := 0) rfl rfl, zx_give hPc hK hDc hS hFc hZ hN⟩ rfl rfl hl.1 rfl (lv_room (Nat.le_of_ble_eq_true rfl)) dX8_addPerson_54 ⟨(Nat.le_of_ble_eq_true rfl), (Nat.le_of_ble_eq_true rfl)⟩) hS (fun q _ h => hFc q h) hFc (fun r9 u t H1 locs ht hvm hw hB hz1 hk1 hS => ?_)
      obtain rfl : r9 = 0 := hw
      obtain ⟨hP, hD⟩ := zx_join (wr := [(h, .inr (13, [.ref pe, .ref ne, .ref pa, .ref ro, .int dy]))]) (w1 := []) [1, 2, 3] [0] rfl rfl (by decide) (by decide) hP hD hk1 hFc hB ht
      generalize H1 = H at hP hS ⊢
      have hP : va_P D vwCl [(h, .inr (13, [.ref pe, .ref ne, .ref pa, .ref ro, .int dy]))] H := hP
      have hD : va_D A [(h, .inr (13, [.ref pe, .ref ne, .ref pa, .ref ro, .int dy]))] := hD
      refine W.widen (k := 0) (n := 0) (Nat.le_of_ble_eq_true rfl) (Nat.le_of_ble_eq_true rfl) ?_
      have hP9 := hP.sub (ws' := []) [] rfl
      have hD9 := hD.sub (ws' := []) [] (by decide) rfl
      refine W.widen (k := 1) (n := 6) (Nat.le_of_ble_eq_true rfl) (Nat.le_of_ble_eq_true rfl) ?_
      refine vx_ret ?_
      exact W.iret (v := 0) hx hb hr (fun t ht hW => ⟨⟨0, (), rfl, ⟨rfl, (by simp [k_addPerson, c_150, c_151])⟩, zx_fin hP9 hD9 hK ht hW⟩, hS.F ht⟩) hS.2.2 dX8_addPerson_57
    ·
      have hat9 : ∀ w ∈ (vx_at0 RX8 45 "java/lang/IllegalArgumentException" ["java/lang/RuntimeException", "java/lang/Exception"]).filter goodWord, w ∈ wzX8_addPerson := fun w h => zx_Gc (tw_RX8_45 w h)
      exact vx_throw0 (names := ["java/lang/RuntimeException", "java/lang/Exception"]) hx hb hst hown (by decide +kernel) (by decide +kernel) (hts (.classLink RX8 43 "java/lang/IllegalArgumentException") (zx_Gc mm_342)) (hts (.initialized "java/lang/IllegalArgumentException") (zx_Gc mm_82)) (vx_hat (B := (vx_at0 RX8 45 "java/lang/IllegalArgumentException" ["java/lang/RuntimeException", "java/lang/Exception"]).filter (fun w => !goodWord w)) (fun w9 h9 => hts w9 (hat9 w9 h9)) (fun _ h9 => h9) (zx_softs tv_RX8_45 hN)) (by decide +kernel) hZ.1 hZ.2.1 hS (hl.1.trans hml.symm) dX8_addPerson_20 dX8_addPerson_23 dX8_addPerson_24 dX8_addPerson_27 (fun x9 h9 => absurd h9 (htb x9)) (Nat.le_of_ble_eq_true rfl) (Nat.le_of_ble_eq_true rfl) (Nat.le_of_ble_eq_true rfl) (Nat.le_of_ble_eq_true rfl) hlocks (zx_thr (P := (fun E9 => (E9 = "java/lang/IllegalArgumentException" ∧ k_addPerson p0 p1 = 1))) hS (⟨rfl, (by simp [k_addPerson, c_150, c_151])⟩)) hS.2.2 (Nat.le_of_ble_eq_true rfl) (Nat.le_of_ble_eq_true rfl)
set_option maxHeartbeats 4000000 in
set_option maxRecDepth 100000 in
theorem c_X1_join (l : Launch) (hst : l.stackTraces = false) (D : va_G) (cy : Nat → ClassId) (ed sz : Nat) (ne : Nat) (n1 : Nat) (n2 : Nat) (n3 : Nat) (n4 : Nat) (n5 : Nat) (p0 : Int32) (p1 : Int32) (hp0 : zx_in p0 0 7 = 1) (hp1 : zx_in p1 0 7 = 1) : Met l yX1_join wzX1_join ({ frames := 1, cells := 0, slots := 0, locals := 21 }) (zx_Pc D cy ed sz [.ref ne, .int p0, .int p1] [(ne, .inr (6, [.ref n1, .ref n2, .ref n3, .ref n4, .ref n5])), (n1, .inl (cy 0, 8, .inl (fun _ => 0)))]) (va_Qi (fun (r9 : Int32) (u9 : Unit) => r9 = 1) (fun (u9 : Unit) (t9 : State) => zx_At D cy (va_A [(ne, .inr (6, [.ref n1, .ref n2, .ref n3, .ref n4, .ref n5])), (n1, .inl (cy 0, 8, .inl (fun _ => 0)))] sz) [] t9) (va_A [(ne, .inr (6, [.ref n1, .ref n2, .ref n3, .ref n4, .ref n5])), (n1, .inl (cy 0, 8, .inl (fun _ => 0)))] sz)) 0 0 (va_A [(ne, .inr (6, [.ref n1, .ref n2, .ref n3, .ref n4, .ref n5])), (n1, .inl (cy 0, 8, .inl (fun _ => 0)))] sz) := by
  refine Met.ofW (cc := cX1_join) (maxL := 4) (ret := (some .boolean)) (by decide) rfl ?_
  intro p e s m args below meth c s₁ B hml hv
  obtain ⟨rfl, hsz, hP, hK, hD0, hZ, hN⟩ := hv
  have hx := B.exec
  have hb := B.bytes
  have hr := B.returns
  have hts := atoms_spec (ws := wzX1_join) B.pre
  have hown : s.vm.findClass RX1 = some m.cls := findClass_of_methodNamed B.named
  have hlocks := B.notSynchronized
  subst hsz
  have hD := hD0.self (sz := s.heap.size)
  generalize hAe : va_A [(ne, .inr (6, [.ref n1, .ref n2, .ref n3, .ref n4, .ref n5])), (n1, .inl (cy 0, 8, .inl (fun _ => 0)))] s.heap.size = A at hD hZ ⊢
  have hA : ∀ q : Nat, s.heap.size ≤ q → A q := fun q h => by rw [← hAe]; exact Or.inr h
  have hS : va_S A s.heap s.heap [] := va_S.rf
  have hP : va_P D vwCl [(ne, .inr (6, [.ref n1, .ref n2, .ref n3, .ref n4, .ref n5])), (n1, .inl (cy 0, 8, .inl (fun _ => 0)))] s.heap := hP
  have hl := lv_entry ([.ref ne, .int p0, .int p1]) (n := 4) (Nat.le_of_ble_eq_true rfl)
  rw [lg_entry_eq]
  generalize (lg_sl ([.ref ne, .int p0, .int p1]) ++ List.replicate (4 - (lg_sl ([.ref ne, .int p0, .int p1])).length) Slot.unset).toArray = ls at hl ⊢
  have hl : lv_has ls 4 [(0, .ref ne), (1, .int p0), (2, .int p1)] := hl
  refine lv_aload_n hx hb dX1_join_0 rfl (lv_at hl 0 rfl) ?_
  refine va_get (D := D) (ci := 6) (v := .ref n1) (C := RX1) (T := TX1) (N := 5) hx hb hts (fun w h => zx_Gc (uz_X1 w h)) hown hK hP 0 rfl rfl 0 (by decide) (hts (.fieldLink RX1 9 "Refereehall$Net" "ties" "[I") (zx_Gc mm_178)) (fun _ h9 => h9) rfl dX1_join_1 ?_
  refine lv_iload_n hx hb dX1_join_4 rfl (lv_at hl 1 rfl) ?_
  refine va_iald hx hb hK hP 1 0 rfl rfl (zx_in8 hp0) dX1_join_5 ?_
  refine lv_topi (fun y9 ey9 => ?_)
  obtain rfl : y9 = 0 := by rw [ey9] <;> decide
  refine lv_iload_n hx hb dX1_join_6 rfl (lv_at hl 2 rfl) ?_
  have hPc := hP.sub (ws' := []) [] rfl
  have hDc := hD.sub (ws' := []) [] (by decide) rfl
  have hFc := va_free (wc := []) hD hS hA [] rfl
  refine va_calli (va_runSN (As := [.int 0, .int p1]) (rest := []) ⟨hx, hb, hml, hown, hts⟩ (c_X8_holds0 l hst D cy ed s.heap.size p1) ⟨va_cnB (host := "Refereehall") 2 hts (zx_GI mm_287) rfl rfl rfl (hN.2.1 _ _ _ _ (List.mem_of_getElem? (i := 549) (by decide +kernel))) (hts (.initialized RX8) (zx_Gc mm_71)) (by decide +kernel) ⟨(Nat.le_of_ble_eq_true rfl), (Nat.le_of_ble_eq_true rfl)⟩, (hts (.static yX8_holds) (zx_Gc mm_286)), trivial⟩ ⟨zx_blind, zx_give hPc hK hDc hS hFc hZ hN⟩ rfl rfl hl.1 rfl (lv_room (Nat.le_of_ble_eq_true rfl)) dX1_join_7 ⟨(Nat.le_of_ble_eq_true rfl), (Nat.le_of_ble_eq_true rfl)⟩) hS (fun q _ h => hFc q h) hFc (fun r9 u t H1 locs ht hvm hw hB hz1 hk1 hS => ?_)
  obtain rfl : r9 = 0 := hw
  obtain ⟨hP, hD⟩ := zx_join (wr := [(ne, .inr (6, [.ref n1, .ref n2, .ref n3, .ref n4, .ref n5])), (n1, .inl (cy 0, 8, .inl (fun _ => 0)))]) (w1 := []) [] [0, 1] rfl rfl (by decide) (by decide) hP hD hk1 hFc hB ht
  generalize H1 = H at hP hS ⊢
  have hP : va_P D vwCl [(ne, .inr (6, [.ref n1, .ref n2, .ref n3, .ref n4, .ref n5])), (n1, .inl (cy 0, 8, .inl (fun _ => 0)))] H := hP
  have hD : va_D A [(ne, .inr (6, [.ref n1, .ref n2, .ref n3, .ref n4, .ref n5])), (n1, .inl (cy 0, 8, .inl (fun _ => 0)))] := hD
  refine W.widen (k := 0) (n := 0) (Nat.le_of_ble_eq_true rfl) (Nat.le_of_ble_eq_true rfl) ?_
  refine lv_if_ne (tgt := 17) hx hb dX1_join_10 (by decide) (fun c_153 => absurd c_153 (by decide)) (fun _ => ?_)
  refine lv_iconst (v := 1) hx hb dX1_join_13 (by decide) ?_
  refine lv_goto (tgt := 18) hx hb dX1_join_14 (by decide) ?_
  refine lv_istore_n (lv' := [(3, .int 1), (0, .ref ne), (1, .int p0), (2, .int p1)]) hx hb dX1_join_18 rfl hl (by decide) rfl (fun ls hl => ?_)
  refine lv_aload_n hx hb dX1_join_19 rfl (lv_at hl 1 rfl) ?_
  refine va_get (D := D) (ci := 6) (v := .ref n1) (C := RX1) (T := TX1) (N := 5) hx hb hts (fun w h => zx_Gc (uz_X1 w h)) hown hK hP 0 rfl rfl 0 (by decide) (hts (.fieldLink RX1 9 "Refereehall$Net" "ties" "[I") (zx_Gc mm_178)) (fun _ h9 => h9) rfl dX1_join_20 ?_
  refine lv_iload_n hx hb dX1_join_23 rfl (lv_at hl 2 rfl) ?_
  refine lv_dup2_11 hx hb dX1_join_24 rfl rfl ?_
  refine va_iald hx hb hK hP 1 0 rfl rfl (zx_in8 hp0) dX1_join_25 ?_
  refine lv_topi (fun y9 ey9 => ?_)
  obtain rfl : y9 = 0 := by rw [ey9] <;> decide
  refine lv_iconst (v := 1) hx hb dX1_join_26 (by decide) ?_
  refine lv_iload_n hx hb dX1_join_27 rfl (lv_at hl 3 rfl) ?_
  refine lv_ishl hx hb dX1_join_28 ?_
  refine lv_ior hx hb dX1_join_29 ?_
  refine va_iast hx hb hK hP hD hS 1 0 rfl rfl (zx_in8 hp0) dX1_join_30 (fun H locs hP hD hS => ?_)
  have hP : va_P D vwCl [(ne, .inr (6, [.ref n1, .ref n2, .ref n3, .ref n4, .ref n5])), (n1, .inl (cy 0, 8, .inl (upd (fun _ => 0) p0.toNatClampNeg ((0 : Int32) ||| ((1 : Int32) <<< (p1 &&& 31))))))] H := hP
  have hD : va_D A [(ne, .inr (6, [.ref n1, .ref n2, .ref n3, .ref n4, .ref n5])), (n1, .inl (cy 0, 8, .inl (upd (fun _ => 0) p0.toNatClampNeg ((0 : Int32) ||| ((1 : Int32) <<< (p1 &&& 31))))))] := hD
  refine lv_aload_n hx hb dX1_join_31 rfl (lv_at hl 1 rfl) ?_
  refine va_get (D := D) (ci := 6) (v := .ref n1) (C := RX1) (T := TX1) (N := 5) hx hb hts (fun w h => zx_Gc (uz_X1 w h)) hown hK hP 0 rfl rfl 0 (by decide) (hts (.fieldLink RX1 9 "Refereehall$Net" "ties" "[I") (zx_Gc mm_178)) (fun _ h9 => h9) rfl dX1_join_32 ?_
  refine lv_iload_n hx hb dX1_join_35 rfl (lv_at hl 3 rfl) ?_
  refine lv_dup2_11 hx hb dX1_join_36 rfl rfl ?_
  refine va_iald hx hb hK hP 1 0 rfl rfl (zx_in8 hp1) dX1_join_37 ?_
  refine lv_iconst (v := 1) hx hb dX1_join_38 (by decide) ?_
  refine lv_iload_n hx hb dX1_join_39 rfl (lv_at hl 2 rfl) ?_
  refine lv_ishl hx hb dX1_join_40 ?_
  refine lv_ior hx hb dX1_join_41 ?_
  refine va_iast hx hb hK hP hD hS 1 0 rfl rfl (zx_in8 hp1) dX1_join_42 (fun H locs hP hD hS => ?_)
  have hP : va_P D vwCl [(ne, .inr (6, [.ref n1, .ref n2, .ref n3, .ref n4, .ref n5])), (n1, .inl (cy 0, 8, .inl (upd (upd (fun _ => 0) p0.toNatClampNeg ((0 : Int32) ||| ((1 : Int32) <<< (p1 &&& 31)))) p1.toNatClampNeg (((upd (fun _ => 0) p0.toNatClampNeg ((0 : Int32) ||| ((1 : Int32) <<< (p1 &&& 31)))) p1.toNatClampNeg) ||| ((1 : Int32) <<< (p0 &&& 31))))))] H := hP
  have hD : va_D A [(ne, .inr (6, [.ref n1, .ref n2, .ref n3, .ref n4, .ref n5])), (n1, .inl (cy 0, 8, .inl (upd (upd (fun _ => 0) p0.toNatClampNeg ((0 : Int32) ||| ((1 : Int32) <<< (p1 &&& 31)))) p1.toNatClampNeg (((upd (fun _ => 0) p0.toNatClampNeg ((0 : Int32) ||| ((1 : Int32) <<< (p1 &&& 31)))) p1.toNatClampNeg) ||| ((1 : Int32) <<< (p0 &&& 31))))))] := hD
  refine lv_iload_n hx hb dX1_join_43 rfl (lv_at hl 0 rfl) ?_
  have hP9 := hP.sub (ws' := []) [] rfl
  have hD9 := hD.sub (ws' := []) [] (by decide) rfl
  exact W.zret (v := 1) hx hb hr rfl (fun t ht hW => ⟨⟨1, (), rfl, rfl, zx_fin hP9 hD9 hK ht hW⟩, hS.F ht⟩) hS.2.2 dX1_join_44
set_option maxHeartbeats 4000000 in
set_option maxRecDepth 100000 in
theorem c_X8_tie (l : Launch) (hst : l.stackTraces = false) (D : va_G) (cy : Nat → ClassId) (ed sz : Nat) (h : Nat) (pe : Nat) (ne : Nat) (pa : Nat) (ro : Nat) (dy : Int32) (n1 : Nat) (n2 : Nat) (n3 : Nat) (n4 : Nat) (n5 : Nat) (p0 : Int32) (p1 : Int32) : vx_Met l yX8_tie wzX8_tie ({ frames := 7, cells := 4, slots := 24, locals := 101 }) (zx_Pc D cy ed sz [.ref h, .int p0, .int p1] [(h, .inr (13, [.ref pe, .ref ne, .ref pa, .ref ro, .int dy])), (ne, .inr (6, [.ref n1, .ref n2, .ref n3, .ref n4, .ref n5])), (n1, .inl (cy 0, 8, .inl (fun _ => 0)))]) (va_Qi (fun (r9 : Int32) (u9 : Unit) => r9 = 1 ∧ k_tie p0 p1 = 0) (fun (u9 : Unit) (t9 : State) => zx_At D cy (va_A [(h, .inr (13, [.ref pe, .ref ne, .ref pa, .ref ro, .int dy])), (ne, .inr (6, [.ref n1, .ref n2, .ref n3, .ref n4, .ref n5])), (n1, .inl (cy 0, 8, .inl (fun _ => 0)))] sz) [] t9) (va_A [(h, .inr (13, [.ref pe, .ref ne, .ref pa, .ref ro, .int dy])), (ne, .inr (6, [.ref n1, .ref n2, .ref n3, .ref n4, .ref n5])), (n1, .inl (cy 0, 8, .inl (fun _ => 0)))] sz)) (zx_X (fun E9 => (E9 = "java/lang/IllegalArgumentException" ∧ k_tie p0 p1 = 1)) (va_A [(h, .inr (13, [.ref pe, .ref ne, .ref pa, .ref ro, .int dy])), (ne, .inr (6, [.ref n1, .ref n2, .ref n3, .ref n4, .ref n5])), (n1, .inl (cy 0, 8, .inl (fun _ => 0)))] sz)) 4 24 (va_A [(h, .inr (13, [.ref pe, .ref ne, .ref pa, .ref ro, .int dy])), (ne, .inr (6, [.ref n1, .ref n2, .ref n3, .ref n4, .ref n5])), (n1, .inl (cy 0, 8, .inl (fun _ => 0)))] sz) := by
  refine vx_ofW (cc := cX8_tie) (maxL := 3) (ret := (some .boolean)) (by decide) rfl ?_
  intro p e s m args below meth c s₁ B hml htb hv
  obtain ⟨rfl, hsz, hP, hK, hD0, hZ, hN⟩ := hv
  have hx := B.exec
  have hb := B.bytes
  have hr := B.returns
  have hts := atoms_spec (ws := wzX8_tie) B.pre
  have hown : s.vm.findClass RX8 = some m.cls := findClass_of_methodNamed B.named
  have hlocks := B.notSynchronized
  subst hsz
  have hD := hD0.self (sz := s.heap.size)
  generalize hAe : va_A [(h, .inr (13, [.ref pe, .ref ne, .ref pa, .ref ro, .int dy])), (ne, .inr (6, [.ref n1, .ref n2, .ref n3, .ref n4, .ref n5])), (n1, .inl (cy 0, 8, .inl (fun _ => 0)))] s.heap.size = A at hD hZ ⊢
  have hA : ∀ q : Nat, s.heap.size ≤ q → A q := fun q h => by rw [← hAe]; exact Or.inr h
  have hS : va_S A s.heap s.heap [] := va_S.rf
  have hP : va_P D vwCl [(h, .inr (13, [.ref pe, .ref ne, .ref pa, .ref ro, .int dy])), (ne, .inr (6, [.ref n1, .ref n2, .ref n3, .ref n4, .ref n5])), (n1, .inl (cy 0, 8, .inl (fun _ => 0)))] s.heap := hP
  have hl := lv_entry ([.ref h, .int p0, .int p1]) (n := 3) (Nat.le_of_ble_eq_true rfl)
  rw [lg_entry_eq]
  generalize (lg_sl ([.ref h, .int p0, .int p1]) ++ List.replicate (3 - (lg_sl ([.ref h, .int p0, .int p1])).length) Slot.unset).toArray = ls at hl ⊢
  have hl : lv_has ls 3 [(0, .ref h), (1, .int p0), (2, .int p1)] := hl
  refine lv_iload_n hx hb dX8_tie_0 rfl (lv_at hl 1 rfl) ?_
  have hPc := hP.sub (ws' := []) [] rfl
  have hDc := hD.sub (ws' := []) [] (by decide) rfl
  have hFc := va_free (wc := []) hD hS hA [] rfl
  refine vx_callv (vx_runS (As := [.int p0]) (rest := []) ⟨hx, hb, hml, hown, hts⟩ (c_X8_needField l hst D cy ed s.heap.size p0) (va_cwS 1 hts (zx_GS mm_529 mm_530 mm_71 mm_531) rfl rfl rfl (by decide +kernel) ⟨(Nat.le_of_ble_eq_true rfl), (Nat.le_of_ble_eq_true rfl)⟩) ⟨zx_blind, zx_give hPc hK hDc hS hFc hZ hN⟩ rfl rfl hl.1 rfl (lv_room (Nat.le_of_ble_eq_true rfl)) dX8_tie_1 ⟨(Nat.le_of_ble_eq_true rfl), (Nat.le_of_ble_eq_true rfl)⟩) hS (fun q _ h => hFc q h) hFc (fun q _ h => hFc q h) (fun E9 ce9 q9 _ t H locs ht hvm _ hBX hz1 hk1 hS hce hcv hcl => ?_) (fun u t H locs ht hvm hw hB hz1 hk1 hS => ?_)
  · exact vx_out (fun x9 h9 => absurd h9 (htb x9)) hlocks hce hcv hcl (zx_pass (P := (fun E9 => (E9 = "java/lang/IllegalArgumentException" ∧ k_tie p0 p1 = 1))) hS (⟨hBX.1, by have h9 := hBX.2; simp [k_tie, h9]⟩)) hS.2.2 (Nat.le_of_ble_eq_true rfl) (Nat.le_of_ble_eq_true rfl)
  ·
    have h_154 := hw
    obtain ⟨hP, hD⟩ := zx_join (wr := [(h, .inr (13, [.ref pe, .ref ne, .ref pa, .ref ro, .int dy])), (ne, .inr (6, [.ref n1, .ref n2, .ref n3, .ref n4, .ref n5])), (n1, .inl (cy 0, 8, .inl (fun _ => 0)))]) (w1 := []) [] [0, 1, 2] rfl rfl (by decide) (by decide) hP hD hk1 hFc hB ht
    have hP : va_P D vwCl [(h, .inr (13, [.ref pe, .ref ne, .ref pa, .ref ro, .int dy])), (ne, .inr (6, [.ref n1, .ref n2, .ref n3, .ref n4, .ref n5])), (n1, .inl (cy 0, 8, .inl (fun _ => 0)))] H := hP
    have hD : va_D A [(h, .inr (13, [.ref pe, .ref ne, .ref pa, .ref ro, .int dy])), (ne, .inr (6, [.ref n1, .ref n2, .ref n3, .ref n4, .ref n5])), (n1, .inl (cy 0, 8, .inl (fun _ => 0)))] := hD
    refine W.widen (k := 1) (n := 6) (Nat.le_of_ble_eq_true rfl) (Nat.le_of_ble_eq_true rfl) ?_
    refine lv_iload_n hx hb dX8_tie_4 rfl (lv_at hl 2 rfl) ?_
    have hPc := hP.sub (ws' := []) [] rfl
    have hDc := hD.sub (ws' := []) [] (by decide) rfl
    have hFc := va_free (wc := []) hD hS hA [] rfl
    refine vx_callv (vx_runS (As := [.int p1]) (rest := []) ⟨hx, hb, hml, hown, hts⟩ (c_X8_needField l hst D cy ed H.size p1) (va_cwS 1 hts (zx_GS mm_529 mm_530 mm_71 mm_531) rfl rfl rfl (by decide +kernel) ⟨(Nat.le_of_ble_eq_true rfl), (Nat.le_of_ble_eq_true rfl)⟩) ⟨zx_blind, zx_give hPc hK hDc hS hFc hZ hN⟩ rfl rfl hl.1 rfl (lv_room (Nat.le_of_ble_eq_true rfl)) dX8_tie_5 ⟨(Nat.le_of_ble_eq_true rfl), (Nat.le_of_ble_eq_true rfl)⟩) hS (fun q _ h => hFc q h) hFc (fun q _ h => hFc q h) (fun E9 ce9 q9 _ t H locs ht hvm _ hBX hz1 hk1 hS hce hcv hcl => ?_) (fun u t H locs ht hvm hw hB hz1 hk1 hS => ?_)
    · exact vx_out (fun x9 h9 => absurd h9 (htb x9)) hlocks hce hcv hcl (zx_pass (P := (fun E9 => (E9 = "java/lang/IllegalArgumentException" ∧ k_tie p0 p1 = 1))) hS (⟨hBX.1, by have h9 := hBX.2; simp [k_tie, h9]⟩)) hS.2.2 (Nat.le_of_ble_eq_true rfl) (Nat.le_of_ble_eq_true rfl)
    ·
      have h_155 := hw
      obtain ⟨hP, hD⟩ := zx_join (wr := [(h, .inr (13, [.ref pe, .ref ne, .ref pa, .ref ro, .int dy])), (ne, .inr (6, [.ref n1, .ref n2, .ref n3, .ref n4, .ref n5])), (n1, .inl (cy 0, 8, .inl (fun _ => 0)))]) (w1 := []) [] [0, 1, 2] rfl rfl (by decide) (by decide) hP hD hk1 hFc hB ht
      have hP : va_P D vwCl [(h, .inr (13, [.ref pe, .ref ne, .ref pa, .ref ro, .int dy])), (ne, .inr (6, [.ref n1, .ref n2, .ref n3, .ref n4, .ref n5])), (n1, .inl (cy 0, 8, .inl (fun _ => 0)))] H := hP
      have hD : va_D A [(h, .inr (13, [.ref pe, .ref ne, .ref pa, .ref ro, .int dy])), (ne, .inr (6, [.ref n1, .ref n2, .ref n3, .ref n4, .ref n5])), (n1, .inl (cy 0, 8, .inl (fun _ => 0)))] := hD
      refine W.widen (k := 2) (n := 12) (Nat.le_of_ble_eq_true rfl) (Nat.le_of_ble_eq_true rfl) ?_
      refine lv_iload_n hx hb dX8_tie_8 rfl (lv_at hl 1 rfl) ?_
      refine lv_iload_n hx hb dX8_tie_9 rfl (lv_at hl 2 rfl) ?_
      refine lv_icmp_ne (tgt := 21) hx hb dX8_tie_10 (by decide) (fun c_156 => ?_) (fun c_156 => ?_)
      ·
        refine lv_aload_n hx hb dX8_tie_21 rfl (lv_at hl 0 rfl) ?_
        refine va_get (D := D) (ci := 13) (v := .ref ne) (C := RX8) (T := TX8) (N := 5) hx hb hts (fun w h => zx_Gc (uz_X8 w h)) hown hK hP 0 rfl rfl 1 (by decide) (hts (.fieldLink RX8 19 "Refereehall" "net" "LRefereehall$Net;") (zx_Gc mm_229)) (fun _ h9 => h9) rfl dX8_tie_22 ?_
        refine lv_iload_n hx hb dX8_tie_25 rfl (lv_at hl 1 rfl) ?_
        refine lv_iload_n hx hb dX8_tie_26 rfl (lv_at hl 2 rfl) ?_
        have hPc := hP.sub (ws' := [(ne, .inr (6, [.ref n1, .ref n2, .ref n3, .ref n4, .ref n5])), (n1, .inl (cy 0, 8, .inl (fun _ => 0)))]) [1, 2] rfl
        have hDc := hD.sub (ws' := [(ne, .inr (6, [.ref n1, .ref n2, .ref n3, .ref n4, .ref n5])), (n1, .inl (cy 0, 8, .inl (fun _ => 0)))]) [1, 2] (by decide) rfl
        have hFc := va_free (wc := [(ne, .inr (6, [.ref n1, .ref n2, .ref n3, .ref n4, .ref n5])), (n1, .inl (cy 0, 8, .inl (fun _ => 0)))]) hD hS hA [1, 2] rfl
        refine va_calli (va_runV (As := [.int p0, .int p1]) (rest := []) ⟨hx, hb, hml, hown, hts⟩ (c_X1_join l hst D cy ed H.size ne n1 n2 n3 n4 n5 p0 p1 h_154 h_155) (cwV 2 hts (zx_GV mm_545 mm_546 mm_547 mm_74 mm_548) rfl rfl rfl (by decide +kernel) ⟨(Nat.le_of_ble_eq_true rfl), (Nat.le_of_ble_eq_true rfl)⟩) ⟨zx_blind, va_recv hK hPc (ci := 6) (q0 := 0) rfl rfl, zx_give hPc hK hDc hS hFc hZ hN⟩ rfl rfl hl.1 rfl (lv_room (Nat.le_of_ble_eq_true rfl)) dX8_tie_27 ⟨(Nat.le_of_ble_eq_true rfl), (Nat.le_of_ble_eq_true rfl)⟩) hS (fun q _ h => hFc q h) hFc (fun r9 u t H1 locs ht hvm hw hB hz1 hk1 hS => ?_)
        obtain rfl : r9 = 1 := hw
        obtain ⟨hP, hD⟩ := zx_join (wr := [(h, .inr (13, [.ref pe, .ref ne, .ref pa, .ref ro, .int dy]))]) (w1 := []) [1, 2] [0] rfl rfl (by decide) (by decide) hP hD hk1 hFc hB ht
        generalize H1 = H at hP hS ⊢
        have hP : va_P D vwCl [(h, .inr (13, [.ref pe, .ref ne, .ref pa, .ref ro, .int dy]))] H := hP
        have hD : va_D A [(h, .inr (13, [.ref pe, .ref ne, .ref pa, .ref ro, .int dy]))] := hD
        refine W.widen (k := 2) (n := 12) (Nat.le_of_ble_eq_true rfl) (Nat.le_of_ble_eq_true rfl) ?_
        have hP9 := hP.sub (ws' := []) [] rfl
        have hD9 := hD.sub (ws' := []) [] (by decide) rfl
        refine W.widen (k := 4) (n := 24) (Nat.le_of_ble_eq_true rfl) (Nat.le_of_ble_eq_true rfl) ?_
        refine vx_ret ?_
        exact W.zret (v := 1) hx hb hr rfl (fun t ht hW => ⟨⟨1, (), rfl, ⟨rfl, (by simp [k_tie, h_154, h_155, c_156])⟩, zx_fin hP9 hD9 hK ht hW⟩, hS.F ht⟩) hS.2.2 dX8_tie_30
      ·
        have hat9 : ∀ w ∈ (vx_at0 RX8 45 "java/lang/IllegalArgumentException" ["java/lang/RuntimeException", "java/lang/Exception"]).filter goodWord, w ∈ wzX8_tie := fun w h => zx_Gc (tw_RX8_45 w h)
        exact vx_throw0 (names := ["java/lang/RuntimeException", "java/lang/Exception"]) hx hb hst hown (by decide +kernel) (by decide +kernel) (hts (.classLink RX8 43 "java/lang/IllegalArgumentException") (zx_Gc mm_342)) (hts (.initialized "java/lang/IllegalArgumentException") (zx_Gc mm_82)) (vx_hat (B := (vx_at0 RX8 45 "java/lang/IllegalArgumentException" ["java/lang/RuntimeException", "java/lang/Exception"]).filter (fun w => !goodWord w)) (fun w9 h9 => hts w9 (hat9 w9 h9)) (fun _ h9 => h9) (zx_softs tv_RX8_45 hN)) (by decide +kernel) hZ.1 hZ.2.1 hS (hl.1.trans hml.symm) dX8_tie_13 dX8_tie_16 dX8_tie_17 dX8_tie_20 (fun x9 h9 => absurd h9 (htb x9)) (Nat.le_of_ble_eq_true rfl) (Nat.le_of_ble_eq_true rfl) (Nat.le_of_ble_eq_true rfl) (Nat.le_of_ble_eq_true rfl) hlocks (zx_thr (P := (fun E9 => (E9 = "java/lang/IllegalArgumentException" ∧ k_tie p0 p1 = 1))) hS (⟨rfl, (by simp [k_tie, h_154, h_155, c_156])⟩)) hS.2.2 (Nat.le_of_ble_eq_true rfl) (Nat.le_of_ble_eq_true rfl)
set_option maxHeartbeats 4000000 in
set_option maxRecDepth 100000 in
theorem c_X1_tiedTo (l : Launch) (hst : l.stackTraces = false) (D : va_G) (cy : Nat → ClassId) (ed sz : Nat) (ne : Nat) (n1 : Nat) (n2 : Nat) (n3 : Nat) (n4 : Nat) (n5 : Nat) (p0 : Int32) : Met l yX1_tiedTo wzX1_tiedTo ({ frames := 1, cells := 0, slots := 0, locals := 21 }) (zx_Pc D cy ed sz [.ref ne, .int p0] [(ne, .inr (6, [.ref n1, .ref n2, .ref n3, .ref n4, .ref n5])), (n1, .inl (cy 0, 8, .inl (fun _ => 0)))]) (va_Qi (fun (r9 : Int32) (u9 : Unit) => r9 = 0) (fun (u9 : Unit) (t9 : State) => zx_At D cy (va_A [(ne, .inr (6, [.ref n1, .ref n2, .ref n3, .ref n4, .ref n5])), (n1, .inl (cy 0, 8, .inl (fun _ => 0)))] sz) [(ne, .inr (6, [.ref n1, .ref n2, .ref n3, .ref n4, .ref n5])), (n1, .inl (cy 0, 8, .inl (fun _ => 0)))] t9) (va_A [(ne, .inr (6, [.ref n1, .ref n2, .ref n3, .ref n4, .ref n5])), (n1, .inl (cy 0, 8, .inl (fun _ => 0)))] sz)) 0 0 (va_A [(ne, .inr (6, [.ref n1, .ref n2, .ref n3, .ref n4, .ref n5])), (n1, .inl (cy 0, 8, .inl (fun _ => 0)))] sz) := by
  refine Met.ofW (cc := cX1_tiedTo) (maxL := 4) (ret := (some .int)) (by decide) rfl ?_
  intro p e s m args below meth c s₁ B hml hv
  obtain ⟨rfl, hsz, hP, hK, hD0, hZ, hN⟩ := hv
  have hx := B.exec
  have hb := B.bytes
  have hr := B.returns
  have hts := atoms_spec (ws := wzX1_tiedTo) B.pre
  have hown : s.vm.findClass RX1 = some m.cls := findClass_of_methodNamed B.named
  have hlocks := B.notSynchronized
  subst hsz
  have hD := hD0.self (sz := s.heap.size)
  generalize hAe : va_A [(ne, .inr (6, [.ref n1, .ref n2, .ref n3, .ref n4, .ref n5])), (n1, .inl (cy 0, 8, .inl (fun _ => 0)))] s.heap.size = A at hD hZ ⊢
  have hA : ∀ q : Nat, s.heap.size ≤ q → A q := fun q h => by rw [← hAe]; exact Or.inr h
  have hS : va_S A s.heap s.heap [] := va_S.rf
  have hP : va_P D vwCl [(ne, .inr (6, [.ref n1, .ref n2, .ref n3, .ref n4, .ref n5])), (n1, .inl (cy 0, 8, .inl (fun _ => 0)))] s.heap := hP
  have hl := lv_entry ([.ref ne, .int p0]) (n := 4) (Nat.le_of_ble_eq_true rfl)
  rw [lg_entry_eq]
  generalize (lg_sl ([.ref ne, .int p0]) ++ List.replicate (4 - (lg_sl ([.ref ne, .int p0])).length) Slot.unset).toArray = ls at hl ⊢
  have hl : lv_has ls 4 [(0, .ref ne), (1, .int p0)] := hl
  refine lv_iconst (v := 0) hx hb dX1_tiedTo_0 (by decide) ?_
  refine lv_istore_n (lv' := [(2, .int 0), (0, .ref ne), (1, .int p0)]) hx hb dX1_tiedTo_1 rfl hl (by decide) rfl (fun ls hl => ?_)
  refine lv_iconst (v := 0) hx hb dX1_tiedTo_2 (by decide) ?_
  refine lv_istore_n (lv' := [(3, .int 0), (2, .int 0), (0, .ref ne), (1, .int p0)]) hx hb dX1_tiedTo_3 rfl hl (by decide) rfl (fun ls hl => ?_)
  refine lv_iload_n hx hb dX1_tiedTo_4 rfl (lv_at hl 0 rfl) ?_
  refine lv_bipush (v := 8) hx hb dX1_tiedTo_5 (by decide) ?_
  refine lv_icmp_ge (tgt := 33) hx hb dX1_tiedTo_7 (by decide) (fun c_157 => absurd c_157 (by decide)) (fun _ => ?_)
  refine lv_iload_n hx hb dX1_tiedTo_10 rfl (lv_at hl 3 rfl) ?_
  refine lv_iload_n hx hb dX1_tiedTo_11 rfl (lv_at hl 0 rfl) ?_
  have hPc := hP.sub (ws' := []) [] rfl
  have hDc := hD.sub (ws' := []) [] (by decide) rfl
  have hFc := va_free (wc := []) hD hS hA [] rfl
  refine va_calli (va_runSN (As := [.int p0, .int 0]) (rest := []) ⟨hx, hb, hml, hown, hts⟩ (c_X8_holds l hst D cy ed s.heap.size p0 0) ⟨va_cnB (host := "Refereehall") 2 hts (zx_GI mm_287) rfl rfl rfl (hN.2.1 _ _ _ _ (List.mem_of_getElem? (i := 549) (by decide +kernel))) (hts (.initialized RX8) (zx_Gc mm_71)) (by decide +kernel) ⟨(Nat.le_of_ble_eq_true rfl), (Nat.le_of_ble_eq_true rfl)⟩, (hts (.static yX8_holds) (zx_Gc mm_286)), trivial⟩ ⟨zx_blind, zx_give hPc hK hDc hS hFc hZ hN⟩ rfl rfl hl.1 rfl (lv_room (Nat.le_of_ble_eq_true rfl)) dX1_tiedTo_12 ⟨(Nat.le_of_ble_eq_true rfl), (Nat.le_of_ble_eq_true rfl)⟩) hS (fun q _ h => hFc q h) hFc (fun r9 u t H1 locs ht hvm hw hB hz1 hk1 hS => ?_)
  obtain rfl : r9 = (zx_holds p0 0) := hw
  obtain ⟨hP, hD⟩ := zx_join (wr := [(ne, .inr (6, [.ref n1, .ref n2, .ref n3, .ref n4, .ref n5])), (n1, .inl (cy 0, 8, .inl (fun _ => 0)))]) (w1 := []) [] [0, 1] rfl rfl (by decide) (by decide) hP hD hk1 hFc hB ht
  generalize H1 = H at hP hS ⊢
  have hP : va_P D vwCl [(ne, .inr (6, [.ref n1, .ref n2, .ref n3, .ref n4, .ref n5])), (n1, .inl (cy 0, 8, .inl (fun _ => 0)))] H := hP
  have hD : va_D A [(ne, .inr (6, [.ref n1, .ref n2, .ref n3, .ref n4, .ref n5])), (n1, .inl (cy 0, 8, .inl (fun _ => 0)))] := hD
  refine W.widen (k := 0) (n := 0) (Nat.le_of_ble_eq_true rfl) (Nat.le_of_ble_eq_true rfl) ?_
  refine zx_cut (P := fun H locs ls => va_P D vwCl [(ne, .inr (6, [.ref n1, .ref n2, .ref n3, .ref n4, .ref n5])), (n1, .inl (cy 0, 8, .inl (fun _ => 0)))] H ∧ va_S A s.heap H locs ∧ lv_has ls 4 [(3, .int 0), (2, .int 0), (0, .ref ne), (1, .int p0)]) (pc2 := 27) (st2 := []) (fun H locs ls hj => ?_) (fun kj => ?_)
  ·
    obtain ⟨hP, hS, hl⟩ := hj
    refine lv_iinc (v := 1) (lv' := [(3, .int 1), (2, .int 0), (0, .ref ne), (1, .int p0)]) hx hb dX1_tiedTo_27 hl (k := 0) rfl (by decide) (by decide) rfl (fun ls hl => ?_)
    refine lv_goto (tgt := 4) hx hb dX1_tiedTo_30 (by decide) ?_
    refine lv_iload_n hx hb dX1_tiedTo_4 rfl (lv_at hl 0 rfl) ?_
    refine lv_bipush (v := 8) hx hb dX1_tiedTo_5 (by decide) ?_
    refine lv_icmp_ge (tgt := 33) hx hb dX1_tiedTo_7 (by decide) (fun c_158 => absurd c_158 (by decide)) (fun _ => ?_)
    refine lv_iload_n hx hb dX1_tiedTo_10 rfl (lv_at hl 3 rfl) ?_
    refine lv_iload_n hx hb dX1_tiedTo_11 rfl (lv_at hl 0 rfl) ?_
    have hPc := hP.sub (ws' := []) [] rfl
    have hDc := hD.sub (ws' := []) [] (by decide) rfl
    have hFc := va_free (wc := []) hD hS hA [] rfl
    refine va_calli (va_runSN (As := [.int p0, .int 1]) (rest := []) ⟨hx, hb, hml, hown, hts⟩ (c_X8_holds l hst D cy ed H.size p0 1) ⟨va_cnB (host := "Refereehall") 2 hts (zx_GI mm_287) rfl rfl rfl (hN.2.1 _ _ _ _ (List.mem_of_getElem? (i := 549) (by decide +kernel))) (hts (.initialized RX8) (zx_Gc mm_71)) (by decide +kernel) ⟨(Nat.le_of_ble_eq_true rfl), (Nat.le_of_ble_eq_true rfl)⟩, (hts (.static yX8_holds) (zx_Gc mm_286)), trivial⟩ ⟨zx_blind, zx_give hPc hK hDc hS hFc hZ hN⟩ rfl rfl hl.1 rfl (lv_room (Nat.le_of_ble_eq_true rfl)) dX1_tiedTo_12 ⟨(Nat.le_of_ble_eq_true rfl), (Nat.le_of_ble_eq_true rfl)⟩) hS (fun q _ h => hFc q h) hFc (fun r9 u t H1 locs ht hvm hw hB hz1 hk1 hS => ?_)
    obtain rfl : r9 = (zx_holds p0 1) := hw
    obtain ⟨hP, hD⟩ := zx_join (wr := [(ne, .inr (6, [.ref n1, .ref n2, .ref n3, .ref n4, .ref n5])), (n1, .inl (cy 0, 8, .inl (fun _ => 0)))]) (w1 := []) [] [0, 1] rfl rfl (by decide) (by decide) hP hD hk1 hFc hB ht
    generalize H1 = H at hP hS ⊢
    have hP : va_P D vwCl [(ne, .inr (6, [.ref n1, .ref n2, .ref n3, .ref n4, .ref n5])), (n1, .inl (cy 0, 8, .inl (fun _ => 0)))] H := hP
    have hD : va_D A [(ne, .inr (6, [.ref n1, .ref n2, .ref n3, .ref n4, .ref n5])), (n1, .inl (cy 0, 8, .inl (fun _ => 0)))] := hD
    refine W.widen (k := 0) (n := 0) (Nat.le_of_ble_eq_true rfl) (Nat.le_of_ble_eq_true rfl) ?_
    refine zx_cut (P := fun H locs ls => va_P D vwCl [(ne, .inr (6, [.ref n1, .ref n2, .ref n3, .ref n4, .ref n5])), (n1, .inl (cy 0, 8, .inl (fun _ => 0)))] H ∧ va_S A s.heap H locs ∧ lv_has ls 4 [(3, .int 1), (2, .int 0), (0, .ref ne), (1, .int p0)]) (pc2 := 27) (st2 := []) (fun H locs ls hj => ?_) (fun kj => ?_)
    ·
      obtain ⟨hP, hS, hl⟩ := hj
      refine lv_iinc (v := 2) (lv' := [(3, .int 2), (2, .int 0), (0, .ref ne), (1, .int p0)]) hx hb dX1_tiedTo_27 hl (k := 0) rfl (by decide) (by decide) rfl (fun ls hl => ?_)
      refine lv_goto (tgt := 4) hx hb dX1_tiedTo_30 (by decide) ?_
      refine lv_iload_n hx hb dX1_tiedTo_4 rfl (lv_at hl 0 rfl) ?_
      refine lv_bipush (v := 8) hx hb dX1_tiedTo_5 (by decide) ?_
      refine lv_icmp_ge (tgt := 33) hx hb dX1_tiedTo_7 (by decide) (fun c_159 => absurd c_159 (by decide)) (fun _ => ?_)
      refine lv_iload_n hx hb dX1_tiedTo_10 rfl (lv_at hl 3 rfl) ?_
      refine lv_iload_n hx hb dX1_tiedTo_11 rfl (lv_at hl 0 rfl) ?_
      have hPc := hP.sub (ws' := []) [] rfl
      have hDc := hD.sub (ws' := []) [] (by decide) rfl
      have hFc := va_free (wc := []) hD hS hA [] rfl
      refine va_calli (va_runSN (As := [.int p0, .int 2]) (rest := []) ⟨hx, hb, hml, hown, hts⟩ (c_X8_holds l hst D cy ed H.size p0 2) ⟨va_cnB (host := "Refereehall") 2 hts (zx_GI mm_287) rfl rfl rfl (hN.2.1 _ _ _ _ (List.mem_of_getElem? (i := 549) (by decide +kernel))) (hts (.initialized RX8) (zx_Gc mm_71)) (by decide +kernel) ⟨(Nat.le_of_ble_eq_true rfl), (Nat.le_of_ble_eq_true rfl)⟩, (hts (.static yX8_holds) (zx_Gc mm_286)), trivial⟩ ⟨zx_blind, zx_give hPc hK hDc hS hFc hZ hN⟩ rfl rfl hl.1 rfl (lv_room (Nat.le_of_ble_eq_true rfl)) dX1_tiedTo_12 ⟨(Nat.le_of_ble_eq_true rfl), (Nat.le_of_ble_eq_true rfl)⟩) hS (fun q _ h => hFc q h) hFc (fun r9 u t H1 locs ht hvm hw hB hz1 hk1 hS => ?_)
      obtain rfl : r9 = (zx_holds p0 2) := hw
      obtain ⟨hP, hD⟩ := zx_join (wr := [(ne, .inr (6, [.ref n1, .ref n2, .ref n3, .ref n4, .ref n5])), (n1, .inl (cy 0, 8, .inl (fun _ => 0)))]) (w1 := []) [] [0, 1] rfl rfl (by decide) (by decide) hP hD hk1 hFc hB ht
      generalize H1 = H at hP hS ⊢
      have hP : va_P D vwCl [(ne, .inr (6, [.ref n1, .ref n2, .ref n3, .ref n4, .ref n5])), (n1, .inl (cy 0, 8, .inl (fun _ => 0)))] H := hP
      have hD : va_D A [(ne, .inr (6, [.ref n1, .ref n2, .ref n3, .ref n4, .ref n5])), (n1, .inl (cy 0, 8, .inl (fun _ => 0)))] := hD
      refine W.widen (k := 0) (n := 0) (Nat.le_of_ble_eq_true rfl) (Nat.le_of_ble_eq_true rfl) ?_
      refine zx_cut (P := fun H locs ls => va_P D vwCl [(ne, .inr (6, [.ref n1, .ref n2, .ref n3, .ref n4, .ref n5])), (n1, .inl (cy 0, 8, .inl (fun _ => 0)))] H ∧ va_S A s.heap H locs ∧ lv_has ls 4 [(3, .int 2), (2, .int 0), (0, .ref ne), (1, .int p0)]) (pc2 := 27) (st2 := []) (fun H locs ls hj => ?_) (fun kj => ?_)
      ·
        obtain ⟨hP, hS, hl⟩ := hj
        refine lv_iinc (v := 3) (lv' := [(3, .int 3), (2, .int 0), (0, .ref ne), (1, .int p0)]) hx hb dX1_tiedTo_27 hl (k := 0) rfl (by decide) (by decide) rfl (fun ls hl => ?_)
        refine lv_goto (tgt := 4) hx hb dX1_tiedTo_30 (by decide) ?_
        refine lv_iload_n hx hb dX1_tiedTo_4 rfl (lv_at hl 0 rfl) ?_
        refine lv_bipush (v := 8) hx hb dX1_tiedTo_5 (by decide) ?_
        refine lv_icmp_ge (tgt := 33) hx hb dX1_tiedTo_7 (by decide) (fun c_160 => absurd c_160 (by decide)) (fun _ => ?_)
        refine lv_iload_n hx hb dX1_tiedTo_10 rfl (lv_at hl 3 rfl) ?_
        refine lv_iload_n hx hb dX1_tiedTo_11 rfl (lv_at hl 0 rfl) ?_
        have hPc := hP.sub (ws' := []) [] rfl
        have hDc := hD.sub (ws' := []) [] (by decide) rfl
        have hFc := va_free (wc := []) hD hS hA [] rfl
        refine va_calli (va_runSN (As := [.int p0, .int 3]) (rest := []) ⟨hx, hb, hml, hown, hts⟩ (c_X8_holds l hst D cy ed H.size p0 3) ⟨va_cnB (host := "Refereehall") 2 hts (zx_GI mm_287) rfl rfl rfl (hN.2.1 _ _ _ _ (List.mem_of_getElem? (i := 549) (by decide +kernel))) (hts (.initialized RX8) (zx_Gc mm_71)) (by decide +kernel) ⟨(Nat.le_of_ble_eq_true rfl), (Nat.le_of_ble_eq_true rfl)⟩, (hts (.static yX8_holds) (zx_Gc mm_286)), trivial⟩ ⟨zx_blind, zx_give hPc hK hDc hS hFc hZ hN⟩ rfl rfl hl.1 rfl (lv_room (Nat.le_of_ble_eq_true rfl)) dX1_tiedTo_12 ⟨(Nat.le_of_ble_eq_true rfl), (Nat.le_of_ble_eq_true rfl)⟩) hS (fun q _ h => hFc q h) hFc (fun r9 u t H1 locs ht hvm hw hB hz1 hk1 hS => ?_)
        obtain rfl : r9 = (zx_holds p0 3) := hw
        obtain ⟨hP, hD⟩ := zx_join (wr := [(ne, .inr (6, [.ref n1, .ref n2, .ref n3, .ref n4, .ref n5])), (n1, .inl (cy 0, 8, .inl (fun _ => 0)))]) (w1 := []) [] [0, 1] rfl rfl (by decide) (by decide) hP hD hk1 hFc hB ht
        generalize H1 = H at hP hS ⊢
        have hP : va_P D vwCl [(ne, .inr (6, [.ref n1, .ref n2, .ref n3, .ref n4, .ref n5])), (n1, .inl (cy 0, 8, .inl (fun _ => 0)))] H := hP
        have hD : va_D A [(ne, .inr (6, [.ref n1, .ref n2, .ref n3, .ref n4, .ref n5])), (n1, .inl (cy 0, 8, .inl (fun _ => 0)))] := hD
        refine W.widen (k := 0) (n := 0) (Nat.le_of_ble_eq_true rfl) (Nat.le_of_ble_eq_true rfl) ?_
        refine zx_cut (P := fun H locs ls => va_P D vwCl [(ne, .inr (6, [.ref n1, .ref n2, .ref n3, .ref n4, .ref n5])), (n1, .inl (cy 0, 8, .inl (fun _ => 0)))] H ∧ va_S A s.heap H locs ∧ lv_has ls 4 [(3, .int 3), (2, .int 0), (0, .ref ne), (1, .int p0)]) (pc2 := 27) (st2 := []) (fun H locs ls hj => ?_) (fun kj => ?_)
        ·
          obtain ⟨hP, hS, hl⟩ := hj
          refine lv_iinc (v := 4) (lv' := [(3, .int 4), (2, .int 0), (0, .ref ne), (1, .int p0)]) hx hb dX1_tiedTo_27 hl (k := 0) rfl (by decide) (by decide) rfl (fun ls hl => ?_)
          refine lv_goto (tgt := 4) hx hb dX1_tiedTo_30 (by decide) ?_
          refine lv_iload_n hx hb dX1_tiedTo_4 rfl (lv_at hl 0 rfl) ?_
          refine lv_bipush (v := 8) hx hb dX1_tiedTo_5 (by decide) ?_
          refine lv_icmp_ge (tgt := 33) hx hb dX1_tiedTo_7 (by decide) (fun c_161 => absurd c_161 (by decide)) (fun _ => ?_)
          refine lv_iload_n hx hb dX1_tiedTo_10 rfl (lv_at hl 3 rfl) ?_
          refine lv_iload_n hx hb dX1_tiedTo_11 rfl (lv_at hl 0 rfl) ?_
          have hPc := hP.sub (ws' := []) [] rfl
          have hDc := hD.sub (ws' := []) [] (by decide) rfl
          have hFc := va_free (wc := []) hD hS hA [] rfl
          refine va_calli (va_runSN (As := [.int p0, .int 4]) (rest := []) ⟨hx, hb, hml, hown, hts⟩ (c_X8_holds l hst D cy ed H.size p0 4) ⟨va_cnB (host := "Refereehall") 2 hts (zx_GI mm_287) rfl rfl rfl (hN.2.1 _ _ _ _ (List.mem_of_getElem? (i := 549) (by decide +kernel))) (hts (.initialized RX8) (zx_Gc mm_71)) (by decide +kernel) ⟨(Nat.le_of_ble_eq_true rfl), (Nat.le_of_ble_eq_true rfl)⟩, (hts (.static yX8_holds) (zx_Gc mm_286)), trivial⟩ ⟨zx_blind, zx_give hPc hK hDc hS hFc hZ hN⟩ rfl rfl hl.1 rfl (lv_room (Nat.le_of_ble_eq_true rfl)) dX1_tiedTo_12 ⟨(Nat.le_of_ble_eq_true rfl), (Nat.le_of_ble_eq_true rfl)⟩) hS (fun q _ h => hFc q h) hFc (fun r9 u t H1 locs ht hvm hw hB hz1 hk1 hS => ?_)
          obtain rfl : r9 = (zx_holds p0 4) := hw
          obtain ⟨hP, hD⟩ := zx_join (wr := [(ne, .inr (6, [.ref n1, .ref n2, .ref n3, .ref n4, .ref n5])), (n1, .inl (cy 0, 8, .inl (fun _ => 0)))]) (w1 := []) [] [0, 1] rfl rfl (by decide) (by decide) hP hD hk1 hFc hB ht
          generalize H1 = H at hP hS ⊢
          have hP : va_P D vwCl [(ne, .inr (6, [.ref n1, .ref n2, .ref n3, .ref n4, .ref n5])), (n1, .inl (cy 0, 8, .inl (fun _ => 0)))] H := hP
          have hD : va_D A [(ne, .inr (6, [.ref n1, .ref n2, .ref n3, .ref n4, .ref n5])), (n1, .inl (cy 0, 8, .inl (fun _ => 0)))] := hD
          refine W.widen (k := 0) (n := 0) (Nat.le_of_ble_eq_true rfl) (Nat.le_of_ble_eq_true rfl) ?_
          refine zx_cut (P := fun H locs ls => va_P D vwCl [(ne, .inr (6, [.ref n1, .ref n2, .ref n3, .ref n4, .ref n5])), (n1, .inl (cy 0, 8, .inl (fun _ => 0)))] H ∧ va_S A s.heap H locs ∧ lv_has ls 4 [(3, .int 4), (2, .int 0), (0, .ref ne), (1, .int p0)]) (pc2 := 27) (st2 := []) (fun H locs ls hj => ?_) (fun kj => ?_)
          ·
            obtain ⟨hP, hS, hl⟩ := hj
            refine lv_iinc (v := 5) (lv' := [(3, .int 5), (2, .int 0), (0, .ref ne), (1, .int p0)]) hx hb dX1_tiedTo_27 hl (k := 0) rfl (by decide) (by decide) rfl (fun ls hl => ?_)
            refine lv_goto (tgt := 4) hx hb dX1_tiedTo_30 (by decide) ?_
            refine lv_iload_n hx hb dX1_tiedTo_4 rfl (lv_at hl 0 rfl) ?_
            refine lv_bipush (v := 8) hx hb dX1_tiedTo_5 (by decide) ?_
            refine lv_icmp_ge (tgt := 33) hx hb dX1_tiedTo_7 (by decide) (fun c_162 => absurd c_162 (by decide)) (fun _ => ?_)
            refine lv_iload_n hx hb dX1_tiedTo_10 rfl (lv_at hl 3 rfl) ?_
            refine lv_iload_n hx hb dX1_tiedTo_11 rfl (lv_at hl 0 rfl) ?_
            have hPc := hP.sub (ws' := []) [] rfl
            have hDc := hD.sub (ws' := []) [] (by decide) rfl
            have hFc := va_free (wc := []) hD hS hA [] rfl
            refine va_calli (va_runSN (As := [.int p0, .int 5]) (rest := []) ⟨hx, hb, hml, hown, hts⟩ (c_X8_holds l hst D cy ed H.size p0 5) ⟨va_cnB (host := "Refereehall") 2 hts (zx_GI mm_287) rfl rfl rfl (hN.2.1 _ _ _ _ (List.mem_of_getElem? (i := 549) (by decide +kernel))) (hts (.initialized RX8) (zx_Gc mm_71)) (by decide +kernel) ⟨(Nat.le_of_ble_eq_true rfl), (Nat.le_of_ble_eq_true rfl)⟩, (hts (.static yX8_holds) (zx_Gc mm_286)), trivial⟩ ⟨zx_blind, zx_give hPc hK hDc hS hFc hZ hN⟩ rfl rfl hl.1 rfl (lv_room (Nat.le_of_ble_eq_true rfl)) dX1_tiedTo_12 ⟨(Nat.le_of_ble_eq_true rfl), (Nat.le_of_ble_eq_true rfl)⟩) hS (fun q _ h => hFc q h) hFc (fun r9 u t H1 locs ht hvm hw hB hz1 hk1 hS => ?_)
            obtain rfl : r9 = (zx_holds p0 5) := hw
            obtain ⟨hP, hD⟩ := zx_join (wr := [(ne, .inr (6, [.ref n1, .ref n2, .ref n3, .ref n4, .ref n5])), (n1, .inl (cy 0, 8, .inl (fun _ => 0)))]) (w1 := []) [] [0, 1] rfl rfl (by decide) (by decide) hP hD hk1 hFc hB ht
            generalize H1 = H at hP hS ⊢
            have hP : va_P D vwCl [(ne, .inr (6, [.ref n1, .ref n2, .ref n3, .ref n4, .ref n5])), (n1, .inl (cy 0, 8, .inl (fun _ => 0)))] H := hP
            have hD : va_D A [(ne, .inr (6, [.ref n1, .ref n2, .ref n3, .ref n4, .ref n5])), (n1, .inl (cy 0, 8, .inl (fun _ => 0)))] := hD
            refine W.widen (k := 0) (n := 0) (Nat.le_of_ble_eq_true rfl) (Nat.le_of_ble_eq_true rfl) ?_
            refine zx_cut (P := fun H locs ls => va_P D vwCl [(ne, .inr (6, [.ref n1, .ref n2, .ref n3, .ref n4, .ref n5])), (n1, .inl (cy 0, 8, .inl (fun _ => 0)))] H ∧ va_S A s.heap H locs ∧ lv_has ls 4 [(3, .int 5), (2, .int 0), (0, .ref ne), (1, .int p0)]) (pc2 := 27) (st2 := []) (fun H locs ls hj => ?_) (fun kj => ?_)
            ·
              obtain ⟨hP, hS, hl⟩ := hj
              refine lv_iinc (v := 6) (lv' := [(3, .int 6), (2, .int 0), (0, .ref ne), (1, .int p0)]) hx hb dX1_tiedTo_27 hl (k := 0) rfl (by decide) (by decide) rfl (fun ls hl => ?_)
              refine lv_goto (tgt := 4) hx hb dX1_tiedTo_30 (by decide) ?_
              refine lv_iload_n hx hb dX1_tiedTo_4 rfl (lv_at hl 0 rfl) ?_
              refine lv_bipush (v := 8) hx hb dX1_tiedTo_5 (by decide) ?_
              refine lv_icmp_ge (tgt := 33) hx hb dX1_tiedTo_7 (by decide) (fun c_163 => absurd c_163 (by decide)) (fun _ => ?_)
              refine lv_iload_n hx hb dX1_tiedTo_10 rfl (lv_at hl 3 rfl) ?_
              refine lv_iload_n hx hb dX1_tiedTo_11 rfl (lv_at hl 0 rfl) ?_
              have hPc := hP.sub (ws' := []) [] rfl
              have hDc := hD.sub (ws' := []) [] (by decide) rfl
              have hFc := va_free (wc := []) hD hS hA [] rfl
              refine va_calli (va_runSN (As := [.int p0, .int 6]) (rest := []) ⟨hx, hb, hml, hown, hts⟩ (c_X8_holds l hst D cy ed H.size p0 6) ⟨va_cnB (host := "Refereehall") 2 hts (zx_GI mm_287) rfl rfl rfl (hN.2.1 _ _ _ _ (List.mem_of_getElem? (i := 549) (by decide +kernel))) (hts (.initialized RX8) (zx_Gc mm_71)) (by decide +kernel) ⟨(Nat.le_of_ble_eq_true rfl), (Nat.le_of_ble_eq_true rfl)⟩, (hts (.static yX8_holds) (zx_Gc mm_286)), trivial⟩ ⟨zx_blind, zx_give hPc hK hDc hS hFc hZ hN⟩ rfl rfl hl.1 rfl (lv_room (Nat.le_of_ble_eq_true rfl)) dX1_tiedTo_12 ⟨(Nat.le_of_ble_eq_true rfl), (Nat.le_of_ble_eq_true rfl)⟩) hS (fun q _ h => hFc q h) hFc (fun r9 u t H1 locs ht hvm hw hB hz1 hk1 hS => ?_)
              obtain rfl : r9 = (zx_holds p0 6) := hw
              obtain ⟨hP, hD⟩ := zx_join (wr := [(ne, .inr (6, [.ref n1, .ref n2, .ref n3, .ref n4, .ref n5])), (n1, .inl (cy 0, 8, .inl (fun _ => 0)))]) (w1 := []) [] [0, 1] rfl rfl (by decide) (by decide) hP hD hk1 hFc hB ht
              generalize H1 = H at hP hS ⊢
              have hP : va_P D vwCl [(ne, .inr (6, [.ref n1, .ref n2, .ref n3, .ref n4, .ref n5])), (n1, .inl (cy 0, 8, .inl (fun _ => 0)))] H := hP
              have hD : va_D A [(ne, .inr (6, [.ref n1, .ref n2, .ref n3, .ref n4, .ref n5])), (n1, .inl (cy 0, 8, .inl (fun _ => 0)))] := hD
              refine W.widen (k := 0) (n := 0) (Nat.le_of_ble_eq_true rfl) (Nat.le_of_ble_eq_true rfl) ?_
              refine zx_cut (P := fun H locs ls => va_P D vwCl [(ne, .inr (6, [.ref n1, .ref n2, .ref n3, .ref n4, .ref n5])), (n1, .inl (cy 0, 8, .inl (fun _ => 0)))] H ∧ va_S A s.heap H locs ∧ lv_has ls 4 [(3, .int 6), (2, .int 0), (0, .ref ne), (1, .int p0)]) (pc2 := 27) (st2 := []) (fun H locs ls hj => ?_) (fun kj => ?_)
              ·
                obtain ⟨hP, hS, hl⟩ := hj
                refine lv_iinc (v := 7) (lv' := [(3, .int 7), (2, .int 0), (0, .ref ne), (1, .int p0)]) hx hb dX1_tiedTo_27 hl (k := 0) rfl (by decide) (by decide) rfl (fun ls hl => ?_)
                refine lv_goto (tgt := 4) hx hb dX1_tiedTo_30 (by decide) ?_
                refine lv_iload_n hx hb dX1_tiedTo_4 rfl (lv_at hl 0 rfl) ?_
                refine lv_bipush (v := 8) hx hb dX1_tiedTo_5 (by decide) ?_
                refine lv_icmp_ge (tgt := 33) hx hb dX1_tiedTo_7 (by decide) (fun c_164 => absurd c_164 (by decide)) (fun _ => ?_)
                refine lv_iload_n hx hb dX1_tiedTo_10 rfl (lv_at hl 3 rfl) ?_
                refine lv_iload_n hx hb dX1_tiedTo_11 rfl (lv_at hl 0 rfl) ?_
                have hPc := hP.sub (ws' := []) [] rfl
                have hDc := hD.sub (ws' := []) [] (by decide) rfl
                have hFc := va_free (wc := []) hD hS hA [] rfl
                refine va_calli (va_runSN (As := [.int p0, .int 7]) (rest := []) ⟨hx, hb, hml, hown, hts⟩ (c_X8_holds l hst D cy ed H.size p0 7) ⟨va_cnB (host := "Refereehall") 2 hts (zx_GI mm_287) rfl rfl rfl (hN.2.1 _ _ _ _ (List.mem_of_getElem? (i := 549) (by decide +kernel))) (hts (.initialized RX8) (zx_Gc mm_71)) (by decide +kernel) ⟨(Nat.le_of_ble_eq_true rfl), (Nat.le_of_ble_eq_true rfl)⟩, (hts (.static yX8_holds) (zx_Gc mm_286)), trivial⟩ ⟨zx_blind, zx_give hPc hK hDc hS hFc hZ hN⟩ rfl rfl hl.1 rfl (lv_room (Nat.le_of_ble_eq_true rfl)) dX1_tiedTo_12 ⟨(Nat.le_of_ble_eq_true rfl), (Nat.le_of_ble_eq_true rfl)⟩) hS (fun q _ h => hFc q h) hFc (fun r9 u t H1 locs ht hvm hw hB hz1 hk1 hS => ?_)
                obtain rfl : r9 = (zx_holds p0 7) := hw
                obtain ⟨hP, hD⟩ := zx_join (wr := [(ne, .inr (6, [.ref n1, .ref n2, .ref n3, .ref n4, .ref n5])), (n1, .inl (cy 0, 8, .inl (fun _ => 0)))]) (w1 := []) [] [0, 1] rfl rfl (by decide) (by decide) hP hD hk1 hFc hB ht
                generalize H1 = H at hP hS ⊢
                have hP : va_P D vwCl [(ne, .inr (6, [.ref n1, .ref n2, .ref n3, .ref n4, .ref n5])), (n1, .inl (cy 0, 8, .inl (fun _ => 0)))] H := hP
                have hD : va_D A [(ne, .inr (6, [.ref n1, .ref n2, .ref n3, .ref n4, .ref n5])), (n1, .inl (cy 0, 8, .inl (fun _ => 0)))] := hD
                refine W.widen (k := 0) (n := 0) (Nat.le_of_ble_eq_true rfl) (Nat.le_of_ble_eq_true rfl) ?_
                refine zx_cut (P := fun H locs ls => va_P D vwCl [(ne, .inr (6, [.ref n1, .ref n2, .ref n3, .ref n4, .ref n5])), (n1, .inl (cy 0, 8, .inl (fun _ => 0)))] H ∧ va_S A s.heap H locs ∧ lv_has ls 4 [(3, .int 7), (2, .int 0), (0, .ref ne), (1, .int p0)]) (pc2 := 27) (st2 := []) (fun H locs ls hj => ?_) (fun kj => ?_)
                ·
                  obtain ⟨hP, hS, hl⟩ := hj
                  refine lv_iinc (v := 8) (lv' := [(3, .int 8), (2, .int 0), (0, .ref ne), (1, .int p0)]) hx hb dX1_tiedTo_27 hl (k := 0) rfl (by decide) (by decide) rfl (fun ls hl => ?_)
                  refine lv_goto (tgt := 4) hx hb dX1_tiedTo_30 (by decide) ?_
                  refine lv_iload_n hx hb dX1_tiedTo_4 rfl (lv_at hl 0 rfl) ?_
                  refine lv_bipush (v := 8) hx hb dX1_tiedTo_5 (by decide) ?_
                  refine lv_icmp_ge (tgt := 33) hx hb dX1_tiedTo_7 (by decide) (fun _ => ?_) (fun c_165 => absurd (by decide) c_165)
                  refine lv_iload_n hx hb dX1_tiedTo_33 rfl (lv_at hl 1 rfl) ?_
                  have hP9 := hP.sub (ws' := [(ne, .inr (6, [.ref n1, .ref n2, .ref n3, .ref n4, .ref n5])), (n1, .inl (cy 0, 8, .inl (fun _ => 0)))]) [0, 1] rfl
                  have hD9 := hD.sub (ws' := [(ne, .inr (6, [.ref n1, .ref n2, .ref n3, .ref n4, .ref n5])), (n1, .inl (cy 0, 8, .inl (fun _ => 0)))]) [0, 1] (by decide) rfl
                  exact W.iret (v := 0) hx hb hr (fun t ht hW => ⟨⟨0, (), rfl, rfl, zx_fin hP9 hD9 hK ht hW⟩, hS.F ht⟩) hS.2.2 dX1_tiedTo_34
                ·
                  refine lv_if_eq (tgt := 27) hx hb dX1_tiedTo_15 (by decide) (fun c_166 => ?_) (fun c_166 => ?_)
                  ·
                    exact kj _ _ _ ⟨hP, hS, lv_sub hl [0, 1, 2, 3] rfl⟩
                  ·
                    refine lv_iload_n hx hb dX1_tiedTo_18 rfl (lv_at hl 1 rfl) ?_
                    refine lv_aload_n hx hb dX1_tiedTo_19 rfl (lv_at hl 2 rfl) ?_
                    refine va_get (D := D) (ci := 6) (v := .ref n1) (C := RX1) (T := TX1) (N := 5) hx hb hts (fun w h => zx_Gc (uz_X1 w h)) hown hK hP 0 rfl rfl 0 (by decide) (hts (.fieldLink RX1 9 "Refereehall$Net" "ties" "[I") (zx_Gc mm_178)) (fun _ h9 => h9) rfl dX1_tiedTo_20 ?_
                    refine lv_iload_n hx hb dX1_tiedTo_23 rfl (lv_at hl 0 rfl) ?_
                    refine va_iald hx hb hK hP 1 0 rfl rfl (zx_bn (by decide)) dX1_tiedTo_24 ?_
                    refine lv_topi (fun y9 ey9 => ?_)
                    obtain rfl : y9 = 0 := by rw [ey9] <;> decide
                    refine lv_ior hx hb dX1_tiedTo_25 ?_
                    refine lv_topi (fun y9 ey9 => ?_)
                    obtain rfl : y9 = 0 := ey9.trans (zx_or0 _)
                    refine lv_istore_n (lv' := [(2, .int 0), (3, .int 7), (0, .ref ne), (1, .int p0)]) hx hb dX1_tiedTo_26 rfl hl (by decide) rfl (fun ls hl => ?_)
                    exact kj _ _ _ ⟨hP, hS, lv_sub hl [1, 0, 2, 3] rfl⟩
              ·
                refine lv_if_eq (tgt := 27) hx hb dX1_tiedTo_15 (by decide) (fun c_167 => ?_) (fun c_167 => ?_)
                ·
                  exact kj _ _ _ ⟨hP, hS, lv_sub hl [0, 1, 2, 3] rfl⟩
                ·
                  refine lv_iload_n hx hb dX1_tiedTo_18 rfl (lv_at hl 1 rfl) ?_
                  refine lv_aload_n hx hb dX1_tiedTo_19 rfl (lv_at hl 2 rfl) ?_
                  refine va_get (D := D) (ci := 6) (v := .ref n1) (C := RX1) (T := TX1) (N := 5) hx hb hts (fun w h => zx_Gc (uz_X1 w h)) hown hK hP 0 rfl rfl 0 (by decide) (hts (.fieldLink RX1 9 "Refereehall$Net" "ties" "[I") (zx_Gc mm_178)) (fun _ h9 => h9) rfl dX1_tiedTo_20 ?_
                  refine lv_iload_n hx hb dX1_tiedTo_23 rfl (lv_at hl 0 rfl) ?_
                  refine va_iald hx hb hK hP 1 0 rfl rfl (zx_bn (by decide)) dX1_tiedTo_24 ?_
                  refine lv_topi (fun y9 ey9 => ?_)
                  obtain rfl : y9 = 0 := by rw [ey9] <;> decide
                  refine lv_ior hx hb dX1_tiedTo_25 ?_
                  refine lv_topi (fun y9 ey9 => ?_)
                  obtain rfl : y9 = 0 := ey9.trans (zx_or0 _)
                  refine lv_istore_n (lv' := [(2, .int 0), (3, .int 6), (0, .ref ne), (1, .int p0)]) hx hb dX1_tiedTo_26 rfl hl (by decide) rfl (fun ls hl => ?_)
                  exact kj _ _ _ ⟨hP, hS, lv_sub hl [1, 0, 2, 3] rfl⟩
            ·
              refine lv_if_eq (tgt := 27) hx hb dX1_tiedTo_15 (by decide) (fun c_168 => ?_) (fun c_168 => ?_)
              ·
                exact kj _ _ _ ⟨hP, hS, lv_sub hl [0, 1, 2, 3] rfl⟩
              ·
                refine lv_iload_n hx hb dX1_tiedTo_18 rfl (lv_at hl 1 rfl) ?_
                refine lv_aload_n hx hb dX1_tiedTo_19 rfl (lv_at hl 2 rfl) ?_
                refine va_get (D := D) (ci := 6) (v := .ref n1) (C := RX1) (T := TX1) (N := 5) hx hb hts (fun w h => zx_Gc (uz_X1 w h)) hown hK hP 0 rfl rfl 0 (by decide) (hts (.fieldLink RX1 9 "Refereehall$Net" "ties" "[I") (zx_Gc mm_178)) (fun _ h9 => h9) rfl dX1_tiedTo_20 ?_
                refine lv_iload_n hx hb dX1_tiedTo_23 rfl (lv_at hl 0 rfl) ?_
                refine va_iald hx hb hK hP 1 0 rfl rfl (zx_bn (by decide)) dX1_tiedTo_24 ?_
                refine lv_topi (fun y9 ey9 => ?_)
                obtain rfl : y9 = 0 := by rw [ey9] <;> decide
                refine lv_ior hx hb dX1_tiedTo_25 ?_
                refine lv_topi (fun y9 ey9 => ?_)
                obtain rfl : y9 = 0 := ey9.trans (zx_or0 _)
                refine lv_istore_n (lv' := [(2, .int 0), (3, .int 5), (0, .ref ne), (1, .int p0)]) hx hb dX1_tiedTo_26 rfl hl (by decide) rfl (fun ls hl => ?_)
                exact kj _ _ _ ⟨hP, hS, lv_sub hl [1, 0, 2, 3] rfl⟩
          ·
            refine lv_if_eq (tgt := 27) hx hb dX1_tiedTo_15 (by decide) (fun c_169 => ?_) (fun c_169 => ?_)
            ·
              exact kj _ _ _ ⟨hP, hS, lv_sub hl [0, 1, 2, 3] rfl⟩
            ·
              refine lv_iload_n hx hb dX1_tiedTo_18 rfl (lv_at hl 1 rfl) ?_
              refine lv_aload_n hx hb dX1_tiedTo_19 rfl (lv_at hl 2 rfl) ?_
              refine va_get (D := D) (ci := 6) (v := .ref n1) (C := RX1) (T := TX1) (N := 5) hx hb hts (fun w h => zx_Gc (uz_X1 w h)) hown hK hP 0 rfl rfl 0 (by decide) (hts (.fieldLink RX1 9 "Refereehall$Net" "ties" "[I") (zx_Gc mm_178)) (fun _ h9 => h9) rfl dX1_tiedTo_20 ?_
              refine lv_iload_n hx hb dX1_tiedTo_23 rfl (lv_at hl 0 rfl) ?_
              refine va_iald hx hb hK hP 1 0 rfl rfl (zx_bn (by decide)) dX1_tiedTo_24 ?_
              refine lv_topi (fun y9 ey9 => ?_)
              obtain rfl : y9 = 0 := by rw [ey9] <;> decide
              refine lv_ior hx hb dX1_tiedTo_25 ?_
              refine lv_topi (fun y9 ey9 => ?_)
              obtain rfl : y9 = 0 := ey9.trans (zx_or0 _)
              refine lv_istore_n (lv' := [(2, .int 0), (3, .int 4), (0, .ref ne), (1, .int p0)]) hx hb dX1_tiedTo_26 rfl hl (by decide) rfl (fun ls hl => ?_)
              exact kj _ _ _ ⟨hP, hS, lv_sub hl [1, 0, 2, 3] rfl⟩
        ·
          refine lv_if_eq (tgt := 27) hx hb dX1_tiedTo_15 (by decide) (fun c_170 => ?_) (fun c_170 => ?_)
          ·
            exact kj _ _ _ ⟨hP, hS, lv_sub hl [0, 1, 2, 3] rfl⟩
          ·
            refine lv_iload_n hx hb dX1_tiedTo_18 rfl (lv_at hl 1 rfl) ?_
            refine lv_aload_n hx hb dX1_tiedTo_19 rfl (lv_at hl 2 rfl) ?_
            refine va_get (D := D) (ci := 6) (v := .ref n1) (C := RX1) (T := TX1) (N := 5) hx hb hts (fun w h => zx_Gc (uz_X1 w h)) hown hK hP 0 rfl rfl 0 (by decide) (hts (.fieldLink RX1 9 "Refereehall$Net" "ties" "[I") (zx_Gc mm_178)) (fun _ h9 => h9) rfl dX1_tiedTo_20 ?_
            refine lv_iload_n hx hb dX1_tiedTo_23 rfl (lv_at hl 0 rfl) ?_
            refine va_iald hx hb hK hP 1 0 rfl rfl (zx_bn (by decide)) dX1_tiedTo_24 ?_
            refine lv_topi (fun y9 ey9 => ?_)
            obtain rfl : y9 = 0 := by rw [ey9] <;> decide
            refine lv_ior hx hb dX1_tiedTo_25 ?_
            refine lv_topi (fun y9 ey9 => ?_)
            obtain rfl : y9 = 0 := ey9.trans (zx_or0 _)
            refine lv_istore_n (lv' := [(2, .int 0), (3, .int 3), (0, .ref ne), (1, .int p0)]) hx hb dX1_tiedTo_26 rfl hl (by decide) rfl (fun ls hl => ?_)
            exact kj _ _ _ ⟨hP, hS, lv_sub hl [1, 0, 2, 3] rfl⟩
      ·
        refine lv_if_eq (tgt := 27) hx hb dX1_tiedTo_15 (by decide) (fun c_171 => ?_) (fun c_171 => ?_)
        ·
          exact kj _ _ _ ⟨hP, hS, lv_sub hl [0, 1, 2, 3] rfl⟩
        ·
          refine lv_iload_n hx hb dX1_tiedTo_18 rfl (lv_at hl 1 rfl) ?_
          refine lv_aload_n hx hb dX1_tiedTo_19 rfl (lv_at hl 2 rfl) ?_
          refine va_get (D := D) (ci := 6) (v := .ref n1) (C := RX1) (T := TX1) (N := 5) hx hb hts (fun w h => zx_Gc (uz_X1 w h)) hown hK hP 0 rfl rfl 0 (by decide) (hts (.fieldLink RX1 9 "Refereehall$Net" "ties" "[I") (zx_Gc mm_178)) (fun _ h9 => h9) rfl dX1_tiedTo_20 ?_
          refine lv_iload_n hx hb dX1_tiedTo_23 rfl (lv_at hl 0 rfl) ?_
          refine va_iald hx hb hK hP 1 0 rfl rfl (zx_bn (by decide)) dX1_tiedTo_24 ?_
          refine lv_topi (fun y9 ey9 => ?_)
          obtain rfl : y9 = 0 := by rw [ey9] <;> decide
          refine lv_ior hx hb dX1_tiedTo_25 ?_
          refine lv_topi (fun y9 ey9 => ?_)
          obtain rfl : y9 = 0 := ey9.trans (zx_or0 _)
          refine lv_istore_n (lv' := [(2, .int 0), (3, .int 2), (0, .ref ne), (1, .int p0)]) hx hb dX1_tiedTo_26 rfl hl (by decide) rfl (fun ls hl => ?_)
          exact kj _ _ _ ⟨hP, hS, lv_sub hl [1, 0, 2, 3] rfl⟩
    ·
      refine lv_if_eq (tgt := 27) hx hb dX1_tiedTo_15 (by decide) (fun c_172 => ?_) (fun c_172 => ?_)
      ·
        exact kj _ _ _ ⟨hP, hS, lv_sub hl [0, 1, 2, 3] rfl⟩
      ·
        refine lv_iload_n hx hb dX1_tiedTo_18 rfl (lv_at hl 1 rfl) ?_
        refine lv_aload_n hx hb dX1_tiedTo_19 rfl (lv_at hl 2 rfl) ?_
        refine va_get (D := D) (ci := 6) (v := .ref n1) (C := RX1) (T := TX1) (N := 5) hx hb hts (fun w h => zx_Gc (uz_X1 w h)) hown hK hP 0 rfl rfl 0 (by decide) (hts (.fieldLink RX1 9 "Refereehall$Net" "ties" "[I") (zx_Gc mm_178)) (fun _ h9 => h9) rfl dX1_tiedTo_20 ?_
        refine lv_iload_n hx hb dX1_tiedTo_23 rfl (lv_at hl 0 rfl) ?_
        refine va_iald hx hb hK hP 1 0 rfl rfl (zx_bn (by decide)) dX1_tiedTo_24 ?_
        refine lv_topi (fun y9 ey9 => ?_)
        obtain rfl : y9 = 0 := by rw [ey9] <;> decide
        refine lv_ior hx hb dX1_tiedTo_25 ?_
        refine lv_topi (fun y9 ey9 => ?_)
        obtain rfl : y9 = 0 := ey9.trans (zx_or0 _)
        refine lv_istore_n (lv' := [(2, .int 0), (3, .int 1), (0, .ref ne), (1, .int p0)]) hx hb dX1_tiedTo_26 rfl hl (by decide) rfl (fun ls hl => ?_)
        exact kj _ _ _ ⟨hP, hS, lv_sub hl [1, 0, 2, 3] rfl⟩
  ·
    refine lv_if_eq (tgt := 27) hx hb dX1_tiedTo_15 (by decide) (fun c_173 => ?_) (fun c_173 => ?_)
    ·
      exact kj _ _ _ ⟨hP, hS, lv_sub hl [0, 1, 2, 3] rfl⟩
    ·
      refine lv_iload_n hx hb dX1_tiedTo_18 rfl (lv_at hl 1 rfl) ?_
      refine lv_aload_n hx hb dX1_tiedTo_19 rfl (lv_at hl 2 rfl) ?_
      refine va_get (D := D) (ci := 6) (v := .ref n1) (C := RX1) (T := TX1) (N := 5) hx hb hts (fun w h => zx_Gc (uz_X1 w h)) hown hK hP 0 rfl rfl 0 (by decide) (hts (.fieldLink RX1 9 "Refereehall$Net" "ties" "[I") (zx_Gc mm_178)) (fun _ h9 => h9) rfl dX1_tiedTo_20 ?_
      refine lv_iload_n hx hb dX1_tiedTo_23 rfl (lv_at hl 0 rfl) ?_
      refine va_iald hx hb hK hP 1 0 rfl rfl (zx_bn (by decide)) dX1_tiedTo_24 ?_
      refine lv_topi (fun y9 ey9 => ?_)
      obtain rfl : y9 = 0 := by rw [ey9] <;> decide
      refine lv_ior hx hb dX1_tiedTo_25 ?_
      refine lv_topi (fun y9 ey9 => ?_)
      obtain rfl : y9 = 0 := ey9.trans (zx_or0 _)
      refine lv_istore_n (lv' := [(2, .int 0), (3, .int 0), (0, .ref ne), (1, .int p0)]) hx hb dX1_tiedTo_26 rfl hl (by decide) rfl (fun ls hl => ?_)
      exact kj _ _ _ ⟨hP, hS, lv_sub hl [1, 0, 2, 3] rfl⟩
set_option maxHeartbeats 4000000 in
set_option maxRecDepth 100000 in
theorem c_X1_nearest (l : Launch) (hst : l.stackTraces = false) (D : va_G) (cy : Nat → ClassId) (ed sz : Nat) (ne : Nat) (n1 : Nat) (n2 : Nat) (n3 : Nat) (n4 : Nat) (n5 : Nat) (p0 : Int32) (p1 : Int32) : Met l yX1_nearest wzX1_nearest ({ frames := 2, cells := 0, slots := 0, locals := 44 }) (zx_Pc D cy ed sz [.ref ne, .int p0, .int p1] [(ne, .inr (6, [.ref n1, .ref n2, .ref n3, .ref n4, .ref n5])), (n1, .inl (cy 0, 8, .inl (fun _ => 0)))]) (va_Qi (fun (r9 : Int32) (u9 : Unit) => r9 = (zx_near p0 p1)) (fun (u9 : Unit) (t9 : State) => zx_At D cy (va_A [(ne, .inr (6, [.ref n1, .ref n2, .ref n3, .ref n4, .ref n5])), (n1, .inl (cy 0, 8, .inl (fun _ => 0)))] sz) [] t9) (va_A [(ne, .inr (6, [.ref n1, .ref n2, .ref n3, .ref n4, .ref n5])), (n1, .inl (cy 0, 8, .inl (fun _ => 0)))] sz)) 0 0 (va_A [(ne, .inr (6, [.ref n1, .ref n2, .ref n3, .ref n4, .ref n5])), (n1, .inl (cy 0, 8, .inl (fun _ => 0)))] sz) := by
  refine Met.ofW (cc := cX1_nearest) (maxL := 5) (ret := (some .int)) (by decide) rfl ?_
  intro p e s m args below meth c s₁ B hml hv
  obtain ⟨rfl, hsz, hP, hK, hD0, hZ, hN⟩ := hv
  have hx := B.exec
  have hb := B.bytes
  have hr := B.returns
  have hts := atoms_spec (ws := wzX1_nearest) B.pre
  have hown : s.vm.findClass RX1 = some m.cls := findClass_of_methodNamed B.named
  have hlocks := B.notSynchronized
  subst hsz
  have hD := hD0.self (sz := s.heap.size)
  generalize hAe : va_A [(ne, .inr (6, [.ref n1, .ref n2, .ref n3, .ref n4, .ref n5])), (n1, .inl (cy 0, 8, .inl (fun _ => 0)))] s.heap.size = A at hD hZ ⊢
  have hA : ∀ q : Nat, s.heap.size ≤ q → A q := fun q h => by rw [← hAe]; exact Or.inr h
  have hS : va_S A s.heap s.heap [] := va_S.rf
  have hP : va_P D vwCl [(ne, .inr (6, [.ref n1, .ref n2, .ref n3, .ref n4, .ref n5])), (n1, .inl (cy 0, 8, .inl (fun _ => 0)))] s.heap := hP
  have hl := lv_entry ([.ref ne, .int p0, .int p1]) (n := 5) (Nat.le_of_ble_eq_true rfl)
  rw [lg_entry_eq]
  generalize (lg_sl ([.ref ne, .int p0, .int p1]) ++ List.replicate (5 - (lg_sl ([.ref ne, .int p0, .int p1])).length) Slot.unset).toArray = ls at hl ⊢
  have hl : lv_has ls 5 [(0, .ref ne), (1, .int p0), (2, .int p1)] := hl
  refine lv_iconst (v := 1) hx hb dX1_nearest_0 (by decide) ?_
  refine lv_iload_n hx hb dX1_nearest_1 rfl (lv_at hl 2 rfl) ?_
  refine lv_ishl hx hb dX1_nearest_2 ?_
  refine lv_istore_n (lv' := [(3, .int ((1 : Int32) <<< (p1 &&& 31))), (0, .ref ne), (1, .int p0), (2, .int p1)]) hx hb dX1_nearest_3 rfl hl (by decide) rfl (fun ls hl => ?_)
  refine lv_iconst (v := 0) hx hb dX1_nearest_4 (by decide) ?_
  refine lv_istore (lv' := [(4, .int 0), (3, .int ((1 : Int32) <<< (p1 &&& 31))), (0, .ref ne), (1, .int p0), (2, .int p1)]) hx hb dX1_nearest_5 hl (by decide) rfl (fun ls hl => ?_)
  refine lv_iload hx hb dX1_nearest_7 (lv_at hl 0 rfl) ?_
  refine lv_bipush (v := 8) hx hb dX1_nearest_9 (by decide) ?_
  refine lv_icmp_ge (tgt := 37) hx hb dX1_nearest_11 (by decide) (fun c_174 => absurd c_174 (by decide)) (fun _ => ?_)
  refine lv_iload_n hx hb dX1_nearest_14 rfl (lv_at hl 3 rfl) ?_
  refine lv_iload_n hx hb dX1_nearest_15 rfl (lv_at hl 1 rfl) ?_
  refine lv_iand hx hb dX1_nearest_16 ?_
  refine lv_if_eq (tgt := 23) hx hb dX1_nearest_17 (by decide) (fun c_175 => ?_) (fun c_175 => ?_)
  ·
    refine lv_iload_n hx hb dX1_nearest_23 rfl (lv_at hl 1 rfl) ?_
    refine lv_aload_n hx hb dX1_nearest_24 rfl (lv_at hl 2 rfl) ?_
    refine lv_iload_n hx hb dX1_nearest_25 rfl (lv_at hl 1 rfl) ?_
    have hPc := hP.sub (ws' := [(ne, .inr (6, [.ref n1, .ref n2, .ref n3, .ref n4, .ref n5])), (n1, .inl (cy 0, 8, .inl (fun _ => 0)))]) [0, 1] rfl
    have hDc := hD.sub (ws' := [(ne, .inr (6, [.ref n1, .ref n2, .ref n3, .ref n4, .ref n5])), (n1, .inl (cy 0, 8, .inl (fun _ => 0)))]) [0, 1] (by decide) rfl
    have hFc := va_free (wc := [(ne, .inr (6, [.ref n1, .ref n2, .ref n3, .ref n4, .ref n5])), (n1, .inl (cy 0, 8, .inl (fun _ => 0)))]) hD hS hA [0, 1] rfl
    refine va_calli (va_runV (As := [.int ((1 : Int32) <<< (p1 &&& 31))]) (rest := [.int ((1 : Int32) <<< (p1 &&& 31))]) ⟨hx, hb, hml, hown, hts⟩ (c_X1_tiedTo l hst D cy ed s.heap.size ne n1 n2 n3 n4 n5 ((1 : Int32) <<< (p1 &&& 31))) (cwV 1 hts (zx_GV mm_561 mm_562 mm_563 mm_74 mm_564) rfl rfl rfl (by decide +kernel) ⟨(Nat.le_of_ble_eq_true rfl), (Nat.le_of_ble_eq_true rfl)⟩) ⟨zx_blind, va_recv hK hPc (ci := 6) (q0 := 0) rfl rfl, zx_give hPc hK hDc hS hFc hZ hN⟩ rfl rfl hl.1 rfl (lv_room (Nat.le_of_ble_eq_true rfl)) dX1_nearest_26 ⟨(Nat.le_of_ble_eq_true rfl), (Nat.le_of_ble_eq_true rfl)⟩) hS (fun q _ h => hFc q h) hFc (fun r9 u t H1 locs ht hvm hw hB hz1 hk1 hS => ?_)
    obtain rfl : r9 = 0 := hw
    obtain ⟨hP, hD⟩ := zx_join (wr := []) (w1 := [(ne, .inr (6, [.ref n1, .ref n2, .ref n3, .ref n4, .ref n5])), (n1, .inl (cy 0, 8, .inl (fun _ => 0)))]) [0, 1] [] rfl rfl (by decide) (by decide) hP hD hk1 hFc hB ht
    generalize H1 = H at hP hS ⊢
    have hP : va_P D vwCl [(ne, .inr (6, [.ref n1, .ref n2, .ref n3, .ref n4, .ref n5])), (n1, .inl (cy 0, 8, .inl (fun _ => 0)))] H := hP
    have hD : va_D A [(ne, .inr (6, [.ref n1, .ref n2, .ref n3, .ref n4, .ref n5])), (n1, .inl (cy 0, 8, .inl (fun _ => 0)))] := hD
    refine W.widen (k := 0) (n := 0) (Nat.le_of_ble_eq_true rfl) (Nat.le_of_ble_eq_true rfl) ?_
    refine lv_ior hx hb dX1_nearest_29 ?_
    refine lv_topi (fun y9 ey9 => ?_)
    obtain rfl : y9 = ((1 : Int32) <<< (p1 &&& 31)) := ey9.trans (zx_or0 _)
    refine lv_istore_n (lv' := [(3, .int ((1 : Int32) <<< (p1 &&& 31))), (4, .int 0), (0, .ref ne), (1, .int p0), (2, .int p1)]) hx hb dX1_nearest_30 rfl hl (by decide) rfl (fun ls hl => ?_)
    refine lv_iinc (v := 1) (lv' := [(4, .int 1), (3, .int ((1 : Int32) <<< (p1 &&& 31))), (0, .ref ne), (1, .int p0), (2, .int p1)]) hx hb dX1_nearest_31 hl (k := 1) rfl (by decide) (by decide) rfl (fun ls hl => ?_)
    refine lv_goto (tgt := 7) hx hb dX1_nearest_34 (by decide) ?_
    refine lv_iload hx hb dX1_nearest_7 (lv_at hl 0 rfl) ?_
    refine lv_bipush (v := 8) hx hb dX1_nearest_9 (by decide) ?_
    refine lv_icmp_ge (tgt := 37) hx hb dX1_nearest_11 (by decide) (fun c_176 => absurd c_176 (by decide)) (fun _ => ?_)
    refine lv_iload_n hx hb dX1_nearest_14 rfl (lv_at hl 3 rfl) ?_
    refine lv_iload_n hx hb dX1_nearest_15 rfl (lv_at hl 1 rfl) ?_
    refine lv_iand hx hb dX1_nearest_16 ?_
    refine lv_if_eq (tgt := 23) hx hb dX1_nearest_17 (by decide) (fun c_177 => ?_) (fun c_177 => ?_)
    ·
      refine lv_iload_n hx hb dX1_nearest_23 rfl (lv_at hl 1 rfl) ?_
      refine lv_aload_n hx hb dX1_nearest_24 rfl (lv_at hl 2 rfl) ?_
      refine lv_iload_n hx hb dX1_nearest_25 rfl (lv_at hl 1 rfl) ?_
      have hPc := hP.sub (ws' := [(ne, .inr (6, [.ref n1, .ref n2, .ref n3, .ref n4, .ref n5])), (n1, .inl (cy 0, 8, .inl (fun _ => 0)))]) [0, 1] rfl
      have hDc := hD.sub (ws' := [(ne, .inr (6, [.ref n1, .ref n2, .ref n3, .ref n4, .ref n5])), (n1, .inl (cy 0, 8, .inl (fun _ => 0)))]) [0, 1] (by decide) rfl
      have hFc := va_free (wc := [(ne, .inr (6, [.ref n1, .ref n2, .ref n3, .ref n4, .ref n5])), (n1, .inl (cy 0, 8, .inl (fun _ => 0)))]) hD hS hA [0, 1] rfl
      refine va_calli (va_runV (As := [.int ((1 : Int32) <<< (p1 &&& 31))]) (rest := [.int ((1 : Int32) <<< (p1 &&& 31))]) ⟨hx, hb, hml, hown, hts⟩ (c_X1_tiedTo l hst D cy ed H.size ne n1 n2 n3 n4 n5 ((1 : Int32) <<< (p1 &&& 31))) (cwV 1 hts (zx_GV mm_561 mm_562 mm_563 mm_74 mm_564) rfl rfl rfl (by decide +kernel) ⟨(Nat.le_of_ble_eq_true rfl), (Nat.le_of_ble_eq_true rfl)⟩) ⟨zx_blind, va_recv hK hPc (ci := 6) (q0 := 0) rfl rfl, zx_give hPc hK hDc hS hFc hZ hN⟩ rfl rfl hl.1 rfl (lv_room (Nat.le_of_ble_eq_true rfl)) dX1_nearest_26 ⟨(Nat.le_of_ble_eq_true rfl), (Nat.le_of_ble_eq_true rfl)⟩) hS (fun q _ h => hFc q h) hFc (fun r9 u t H1 locs ht hvm hw hB hz1 hk1 hS => ?_)
      obtain rfl : r9 = 0 := hw
      obtain ⟨hP, hD⟩ := zx_join (wr := []) (w1 := [(ne, .inr (6, [.ref n1, .ref n2, .ref n3, .ref n4, .ref n5])), (n1, .inl (cy 0, 8, .inl (fun _ => 0)))]) [0, 1] [] rfl rfl (by decide) (by decide) hP hD hk1 hFc hB ht
      generalize H1 = H at hP hS ⊢
      have hP : va_P D vwCl [(ne, .inr (6, [.ref n1, .ref n2, .ref n3, .ref n4, .ref n5])), (n1, .inl (cy 0, 8, .inl (fun _ => 0)))] H := hP
      have hD : va_D A [(ne, .inr (6, [.ref n1, .ref n2, .ref n3, .ref n4, .ref n5])), (n1, .inl (cy 0, 8, .inl (fun _ => 0)))] := hD
      refine W.widen (k := 0) (n := 0) (Nat.le_of_ble_eq_true rfl) (Nat.le_of_ble_eq_true rfl) ?_
      refine lv_ior hx hb dX1_nearest_29 ?_
      refine lv_topi (fun y9 ey9 => ?_)
      obtain rfl : y9 = ((1 : Int32) <<< (p1 &&& 31)) := ey9.trans (zx_or0 _)
      refine lv_istore_n (lv' := [(3, .int ((1 : Int32) <<< (p1 &&& 31))), (4, .int 1), (0, .ref ne), (1, .int p0), (2, .int p1)]) hx hb dX1_nearest_30 rfl hl (by decide) rfl (fun ls hl => ?_)
      refine lv_iinc (v := 2) (lv' := [(4, .int 2), (3, .int ((1 : Int32) <<< (p1 &&& 31))), (0, .ref ne), (1, .int p0), (2, .int p1)]) hx hb dX1_nearest_31 hl (k := 1) rfl (by decide) (by decide) rfl (fun ls hl => ?_)
      refine lv_goto (tgt := 7) hx hb dX1_nearest_34 (by decide) ?_
      refine lv_iload hx hb dX1_nearest_7 (lv_at hl 0 rfl) ?_
      refine lv_bipush (v := 8) hx hb dX1_nearest_9 (by decide) ?_
      refine lv_icmp_ge (tgt := 37) hx hb dX1_nearest_11 (by decide) (fun c_178 => absurd c_178 (by decide)) (fun _ => ?_)
      refine lv_iload_n hx hb dX1_nearest_14 rfl (lv_at hl 3 rfl) ?_
      refine lv_iload_n hx hb dX1_nearest_15 rfl (lv_at hl 1 rfl) ?_
      refine lv_iand hx hb dX1_nearest_16 ?_
      refine lv_if_eq (tgt := 23) hx hb dX1_nearest_17 (by decide) (fun c_179 => ?_) (fun c_179 => ?_)
      ·
        refine lv_iload_n hx hb dX1_nearest_23 rfl (lv_at hl 1 rfl) ?_
        refine lv_aload_n hx hb dX1_nearest_24 rfl (lv_at hl 2 rfl) ?_
        refine lv_iload_n hx hb dX1_nearest_25 rfl (lv_at hl 1 rfl) ?_
        have hPc := hP.sub (ws' := [(ne, .inr (6, [.ref n1, .ref n2, .ref n3, .ref n4, .ref n5])), (n1, .inl (cy 0, 8, .inl (fun _ => 0)))]) [0, 1] rfl
        have hDc := hD.sub (ws' := [(ne, .inr (6, [.ref n1, .ref n2, .ref n3, .ref n4, .ref n5])), (n1, .inl (cy 0, 8, .inl (fun _ => 0)))]) [0, 1] (by decide) rfl
        have hFc := va_free (wc := [(ne, .inr (6, [.ref n1, .ref n2, .ref n3, .ref n4, .ref n5])), (n1, .inl (cy 0, 8, .inl (fun _ => 0)))]) hD hS hA [0, 1] rfl
        refine va_calli (va_runV (As := [.int ((1 : Int32) <<< (p1 &&& 31))]) (rest := [.int ((1 : Int32) <<< (p1 &&& 31))]) ⟨hx, hb, hml, hown, hts⟩ (c_X1_tiedTo l hst D cy ed H.size ne n1 n2 n3 n4 n5 ((1 : Int32) <<< (p1 &&& 31))) (cwV 1 hts (zx_GV mm_561 mm_562 mm_563 mm_74 mm_564) rfl rfl rfl (by decide +kernel) ⟨(Nat.le_of_ble_eq_true rfl), (Nat.le_of_ble_eq_true rfl)⟩) ⟨zx_blind, va_recv hK hPc (ci := 6) (q0 := 0) rfl rfl, zx_give hPc hK hDc hS hFc hZ hN⟩ rfl rfl hl.1 rfl (lv_room (Nat.le_of_ble_eq_true rfl)) dX1_nearest_26 ⟨(Nat.le_of_ble_eq_true rfl), (Nat.le_of_ble_eq_true rfl)⟩) hS (fun q _ h => hFc q h) hFc (fun r9 u t H1 locs ht hvm hw hB hz1 hk1 hS => ?_)
        obtain rfl : r9 = 0 := hw
        obtain ⟨hP, hD⟩ := zx_join (wr := []) (w1 := [(ne, .inr (6, [.ref n1, .ref n2, .ref n3, .ref n4, .ref n5])), (n1, .inl (cy 0, 8, .inl (fun _ => 0)))]) [0, 1] [] rfl rfl (by decide) (by decide) hP hD hk1 hFc hB ht
        generalize H1 = H at hP hS ⊢
        have hP : va_P D vwCl [(ne, .inr (6, [.ref n1, .ref n2, .ref n3, .ref n4, .ref n5])), (n1, .inl (cy 0, 8, .inl (fun _ => 0)))] H := hP
        have hD : va_D A [(ne, .inr (6, [.ref n1, .ref n2, .ref n3, .ref n4, .ref n5])), (n1, .inl (cy 0, 8, .inl (fun _ => 0)))] := hD
        refine W.widen (k := 0) (n := 0) (Nat.le_of_ble_eq_true rfl) (Nat.le_of_ble_eq_true rfl) ?_
        refine lv_ior hx hb dX1_nearest_29 ?_
        refine lv_topi (fun y9 ey9 => ?_)
        obtain rfl : y9 = ((1 : Int32) <<< (p1 &&& 31)) := ey9.trans (zx_or0 _)
        refine lv_istore_n (lv' := [(3, .int ((1 : Int32) <<< (p1 &&& 31))), (4, .int 2), (0, .ref ne), (1, .int p0), (2, .int p1)]) hx hb dX1_nearest_30 rfl hl (by decide) rfl (fun ls hl => ?_)
        refine lv_iinc (v := 3) (lv' := [(4, .int 3), (3, .int ((1 : Int32) <<< (p1 &&& 31))), (0, .ref ne), (1, .int p0), (2, .int p1)]) hx hb dX1_nearest_31 hl (k := 1) rfl (by decide) (by decide) rfl (fun ls hl => ?_)
        refine lv_goto (tgt := 7) hx hb dX1_nearest_34 (by decide) ?_
        refine lv_iload hx hb dX1_nearest_7 (lv_at hl 0 rfl) ?_
        refine lv_bipush (v := 8) hx hb dX1_nearest_9 (by decide) ?_
        refine lv_icmp_ge (tgt := 37) hx hb dX1_nearest_11 (by decide) (fun c_180 => absurd c_180 (by decide)) (fun _ => ?_)
        refine lv_iload_n hx hb dX1_nearest_14 rfl (lv_at hl 3 rfl) ?_
        refine lv_iload_n hx hb dX1_nearest_15 rfl (lv_at hl 1 rfl) ?_
        refine lv_iand hx hb dX1_nearest_16 ?_
        refine lv_if_eq (tgt := 23) hx hb dX1_nearest_17 (by decide) (fun c_181 => ?_) (fun c_181 => ?_)
        ·
          refine lv_iload_n hx hb dX1_nearest_23 rfl (lv_at hl 1 rfl) ?_
          refine lv_aload_n hx hb dX1_nearest_24 rfl (lv_at hl 2 rfl) ?_
          refine lv_iload_n hx hb dX1_nearest_25 rfl (lv_at hl 1 rfl) ?_
          have hPc := hP.sub (ws' := [(ne, .inr (6, [.ref n1, .ref n2, .ref n3, .ref n4, .ref n5])), (n1, .inl (cy 0, 8, .inl (fun _ => 0)))]) [0, 1] rfl
          have hDc := hD.sub (ws' := [(ne, .inr (6, [.ref n1, .ref n2, .ref n3, .ref n4, .ref n5])), (n1, .inl (cy 0, 8, .inl (fun _ => 0)))]) [0, 1] (by decide) rfl
          have hFc := va_free (wc := [(ne, .inr (6, [.ref n1, .ref n2, .ref n3, .ref n4, .ref n5])), (n1, .inl (cy 0, 8, .inl (fun _ => 0)))]) hD hS hA [0, 1] rfl
          refine va_calli (va_runV (As := [.int ((1 : Int32) <<< (p1 &&& 31))]) (rest := [.int ((1 : Int32) <<< (p1 &&& 31))]) ⟨hx, hb, hml, hown, hts⟩ (c_X1_tiedTo l hst D cy ed H.size ne n1 n2 n3 n4 n5 ((1 : Int32) <<< (p1 &&& 31))) (cwV 1 hts (zx_GV mm_561 mm_562 mm_563 mm_74 mm_564) rfl rfl rfl (by decide +kernel) ⟨(Nat.le_of_ble_eq_true rfl), (Nat.le_of_ble_eq_true rfl)⟩) ⟨zx_blind, va_recv hK hPc (ci := 6) (q0 := 0) rfl rfl, zx_give hPc hK hDc hS hFc hZ hN⟩ rfl rfl hl.1 rfl (lv_room (Nat.le_of_ble_eq_true rfl)) dX1_nearest_26 ⟨(Nat.le_of_ble_eq_true rfl), (Nat.le_of_ble_eq_true rfl)⟩) hS (fun q _ h => hFc q h) hFc (fun r9 u t H1 locs ht hvm hw hB hz1 hk1 hS => ?_)
          obtain rfl : r9 = 0 := hw
          obtain ⟨hP, hD⟩ := zx_join (wr := []) (w1 := [(ne, .inr (6, [.ref n1, .ref n2, .ref n3, .ref n4, .ref n5])), (n1, .inl (cy 0, 8, .inl (fun _ => 0)))]) [0, 1] [] rfl rfl (by decide) (by decide) hP hD hk1 hFc hB ht
          generalize H1 = H at hP hS ⊢
          have hP : va_P D vwCl [(ne, .inr (6, [.ref n1, .ref n2, .ref n3, .ref n4, .ref n5])), (n1, .inl (cy 0, 8, .inl (fun _ => 0)))] H := hP
          have hD : va_D A [(ne, .inr (6, [.ref n1, .ref n2, .ref n3, .ref n4, .ref n5])), (n1, .inl (cy 0, 8, .inl (fun _ => 0)))] := hD
          refine W.widen (k := 0) (n := 0) (Nat.le_of_ble_eq_true rfl) (Nat.le_of_ble_eq_true rfl) ?_
          refine lv_ior hx hb dX1_nearest_29 ?_
          refine lv_topi (fun y9 ey9 => ?_)
          obtain rfl : y9 = ((1 : Int32) <<< (p1 &&& 31)) := ey9.trans (zx_or0 _)
          refine lv_istore_n (lv' := [(3, .int ((1 : Int32) <<< (p1 &&& 31))), (4, .int 3), (0, .ref ne), (1, .int p0), (2, .int p1)]) hx hb dX1_nearest_30 rfl hl (by decide) rfl (fun ls hl => ?_)
          refine lv_iinc (v := 4) (lv' := [(4, .int 4), (3, .int ((1 : Int32) <<< (p1 &&& 31))), (0, .ref ne), (1, .int p0), (2, .int p1)]) hx hb dX1_nearest_31 hl (k := 1) rfl (by decide) (by decide) rfl (fun ls hl => ?_)
          refine lv_goto (tgt := 7) hx hb dX1_nearest_34 (by decide) ?_
          refine lv_iload hx hb dX1_nearest_7 (lv_at hl 0 rfl) ?_
          refine lv_bipush (v := 8) hx hb dX1_nearest_9 (by decide) ?_
          refine lv_icmp_ge (tgt := 37) hx hb dX1_nearest_11 (by decide) (fun c_182 => absurd c_182 (by decide)) (fun _ => ?_)
          refine lv_iload_n hx hb dX1_nearest_14 rfl (lv_at hl 3 rfl) ?_
          refine lv_iload_n hx hb dX1_nearest_15 rfl (lv_at hl 1 rfl) ?_
          refine lv_iand hx hb dX1_nearest_16 ?_
          refine lv_if_eq (tgt := 23) hx hb dX1_nearest_17 (by decide) (fun c_183 => ?_) (fun c_183 => ?_)
          ·
            refine lv_iload_n hx hb dX1_nearest_23 rfl (lv_at hl 1 rfl) ?_
            refine lv_aload_n hx hb dX1_nearest_24 rfl (lv_at hl 2 rfl) ?_
            refine lv_iload_n hx hb dX1_nearest_25 rfl (lv_at hl 1 rfl) ?_
            have hPc := hP.sub (ws' := [(ne, .inr (6, [.ref n1, .ref n2, .ref n3, .ref n4, .ref n5])), (n1, .inl (cy 0, 8, .inl (fun _ => 0)))]) [0, 1] rfl
            have hDc := hD.sub (ws' := [(ne, .inr (6, [.ref n1, .ref n2, .ref n3, .ref n4, .ref n5])), (n1, .inl (cy 0, 8, .inl (fun _ => 0)))]) [0, 1] (by decide) rfl
            have hFc := va_free (wc := [(ne, .inr (6, [.ref n1, .ref n2, .ref n3, .ref n4, .ref n5])), (n1, .inl (cy 0, 8, .inl (fun _ => 0)))]) hD hS hA [0, 1] rfl
            refine va_calli (va_runV (As := [.int ((1 : Int32) <<< (p1 &&& 31))]) (rest := [.int ((1 : Int32) <<< (p1 &&& 31))]) ⟨hx, hb, hml, hown, hts⟩ (c_X1_tiedTo l hst D cy ed H.size ne n1 n2 n3 n4 n5 ((1 : Int32) <<< (p1 &&& 31))) (cwV 1 hts (zx_GV mm_561 mm_562 mm_563 mm_74 mm_564) rfl rfl rfl (by decide +kernel) ⟨(Nat.le_of_ble_eq_true rfl), (Nat.le_of_ble_eq_true rfl)⟩) ⟨zx_blind, va_recv hK hPc (ci := 6) (q0 := 0) rfl rfl, zx_give hPc hK hDc hS hFc hZ hN⟩ rfl rfl hl.1 rfl (lv_room (Nat.le_of_ble_eq_true rfl)) dX1_nearest_26 ⟨(Nat.le_of_ble_eq_true rfl), (Nat.le_of_ble_eq_true rfl)⟩) hS (fun q _ h => hFc q h) hFc (fun r9 u t H1 locs ht hvm hw hB hz1 hk1 hS => ?_)
            obtain rfl : r9 = 0 := hw
            obtain ⟨hP, hD⟩ := zx_join (wr := []) (w1 := [(ne, .inr (6, [.ref n1, .ref n2, .ref n3, .ref n4, .ref n5])), (n1, .inl (cy 0, 8, .inl (fun _ => 0)))]) [0, 1] [] rfl rfl (by decide) (by decide) hP hD hk1 hFc hB ht
            generalize H1 = H at hP hS ⊢
            have hP : va_P D vwCl [(ne, .inr (6, [.ref n1, .ref n2, .ref n3, .ref n4, .ref n5])), (n1, .inl (cy 0, 8, .inl (fun _ => 0)))] H := hP
            have hD : va_D A [(ne, .inr (6, [.ref n1, .ref n2, .ref n3, .ref n4, .ref n5])), (n1, .inl (cy 0, 8, .inl (fun _ => 0)))] := hD
            refine W.widen (k := 0) (n := 0) (Nat.le_of_ble_eq_true rfl) (Nat.le_of_ble_eq_true rfl) ?_
            refine lv_ior hx hb dX1_nearest_29 ?_
            refine lv_topi (fun y9 ey9 => ?_)
            obtain rfl : y9 = ((1 : Int32) <<< (p1 &&& 31)) := ey9.trans (zx_or0 _)
            refine lv_istore_n (lv' := [(3, .int ((1 : Int32) <<< (p1 &&& 31))), (4, .int 4), (0, .ref ne), (1, .int p0), (2, .int p1)]) hx hb dX1_nearest_30 rfl hl (by decide) rfl (fun ls hl => ?_)
            refine lv_iinc (v := 5) (lv' := [(4, .int 5), (3, .int ((1 : Int32) <<< (p1 &&& 31))), (0, .ref ne), (1, .int p0), (2, .int p1)]) hx hb dX1_nearest_31 hl (k := 1) rfl (by decide) (by decide) rfl (fun ls hl => ?_)
            refine lv_goto (tgt := 7) hx hb dX1_nearest_34 (by decide) ?_
            refine lv_iload hx hb dX1_nearest_7 (lv_at hl 0 rfl) ?_
            refine lv_bipush (v := 8) hx hb dX1_nearest_9 (by decide) ?_
            refine lv_icmp_ge (tgt := 37) hx hb dX1_nearest_11 (by decide) (fun c_184 => absurd c_184 (by decide)) (fun _ => ?_)
            refine lv_iload_n hx hb dX1_nearest_14 rfl (lv_at hl 3 rfl) ?_
            refine lv_iload_n hx hb dX1_nearest_15 rfl (lv_at hl 1 rfl) ?_
            refine lv_iand hx hb dX1_nearest_16 ?_
            refine lv_if_eq (tgt := 23) hx hb dX1_nearest_17 (by decide) (fun c_185 => ?_) (fun c_185 => ?_)
            ·
              refine lv_iload_n hx hb dX1_nearest_23 rfl (lv_at hl 1 rfl) ?_
              refine lv_aload_n hx hb dX1_nearest_24 rfl (lv_at hl 2 rfl) ?_
              refine lv_iload_n hx hb dX1_nearest_25 rfl (lv_at hl 1 rfl) ?_
              have hPc := hP.sub (ws' := [(ne, .inr (6, [.ref n1, .ref n2, .ref n3, .ref n4, .ref n5])), (n1, .inl (cy 0, 8, .inl (fun _ => 0)))]) [0, 1] rfl
              have hDc := hD.sub (ws' := [(ne, .inr (6, [.ref n1, .ref n2, .ref n3, .ref n4, .ref n5])), (n1, .inl (cy 0, 8, .inl (fun _ => 0)))]) [0, 1] (by decide) rfl
              have hFc := va_free (wc := [(ne, .inr (6, [.ref n1, .ref n2, .ref n3, .ref n4, .ref n5])), (n1, .inl (cy 0, 8, .inl (fun _ => 0)))]) hD hS hA [0, 1] rfl
              refine va_calli (va_runV (As := [.int ((1 : Int32) <<< (p1 &&& 31))]) (rest := [.int ((1 : Int32) <<< (p1 &&& 31))]) ⟨hx, hb, hml, hown, hts⟩ (c_X1_tiedTo l hst D cy ed H.size ne n1 n2 n3 n4 n5 ((1 : Int32) <<< (p1 &&& 31))) (cwV 1 hts (zx_GV mm_561 mm_562 mm_563 mm_74 mm_564) rfl rfl rfl (by decide +kernel) ⟨(Nat.le_of_ble_eq_true rfl), (Nat.le_of_ble_eq_true rfl)⟩) ⟨zx_blind, va_recv hK hPc (ci := 6) (q0 := 0) rfl rfl, zx_give hPc hK hDc hS hFc hZ hN⟩ rfl rfl hl.1 rfl (lv_room (Nat.le_of_ble_eq_true rfl)) dX1_nearest_26 ⟨(Nat.le_of_ble_eq_true rfl), (Nat.le_of_ble_eq_true rfl)⟩) hS (fun q _ h => hFc q h) hFc (fun r9 u t H1 locs ht hvm hw hB hz1 hk1 hS => ?_)
              obtain rfl : r9 = 0 := hw
              obtain ⟨hP, hD⟩ := zx_join (wr := []) (w1 := [(ne, .inr (6, [.ref n1, .ref n2, .ref n3, .ref n4, .ref n5])), (n1, .inl (cy 0, 8, .inl (fun _ => 0)))]) [0, 1] [] rfl rfl (by decide) (by decide) hP hD hk1 hFc hB ht
              generalize H1 = H at hP hS ⊢
              have hP : va_P D vwCl [(ne, .inr (6, [.ref n1, .ref n2, .ref n3, .ref n4, .ref n5])), (n1, .inl (cy 0, 8, .inl (fun _ => 0)))] H := hP
              have hD : va_D A [(ne, .inr (6, [.ref n1, .ref n2, .ref n3, .ref n4, .ref n5])), (n1, .inl (cy 0, 8, .inl (fun _ => 0)))] := hD
              refine W.widen (k := 0) (n := 0) (Nat.le_of_ble_eq_true rfl) (Nat.le_of_ble_eq_true rfl) ?_
              refine lv_ior hx hb dX1_nearest_29 ?_
              refine lv_topi (fun y9 ey9 => ?_)
              obtain rfl : y9 = ((1 : Int32) <<< (p1 &&& 31)) := ey9.trans (zx_or0 _)
              refine lv_istore_n (lv' := [(3, .int ((1 : Int32) <<< (p1 &&& 31))), (4, .int 5), (0, .ref ne), (1, .int p0), (2, .int p1)]) hx hb dX1_nearest_30 rfl hl (by decide) rfl (fun ls hl => ?_)
              refine lv_iinc (v := 6) (lv' := [(4, .int 6), (3, .int ((1 : Int32) <<< (p1 &&& 31))), (0, .ref ne), (1, .int p0), (2, .int p1)]) hx hb dX1_nearest_31 hl (k := 1) rfl (by decide) (by decide) rfl (fun ls hl => ?_)
              refine lv_goto (tgt := 7) hx hb dX1_nearest_34 (by decide) ?_
              refine lv_iload hx hb dX1_nearest_7 (lv_at hl 0 rfl) ?_
              refine lv_bipush (v := 8) hx hb dX1_nearest_9 (by decide) ?_
              refine lv_icmp_ge (tgt := 37) hx hb dX1_nearest_11 (by decide) (fun c_186 => absurd c_186 (by decide)) (fun _ => ?_)
              refine lv_iload_n hx hb dX1_nearest_14 rfl (lv_at hl 3 rfl) ?_
              refine lv_iload_n hx hb dX1_nearest_15 rfl (lv_at hl 1 rfl) ?_
              refine lv_iand hx hb dX1_nearest_16 ?_
              refine lv_if_eq (tgt := 23) hx hb dX1_nearest_17 (by decide) (fun c_187 => ?_) (fun c_187 => ?_)
              ·
                refine lv_iload_n hx hb dX1_nearest_23 rfl (lv_at hl 1 rfl) ?_
                refine lv_aload_n hx hb dX1_nearest_24 rfl (lv_at hl 2 rfl) ?_
                refine lv_iload_n hx hb dX1_nearest_25 rfl (lv_at hl 1 rfl) ?_
                have hPc := hP.sub (ws' := [(ne, .inr (6, [.ref n1, .ref n2, .ref n3, .ref n4, .ref n5])), (n1, .inl (cy 0, 8, .inl (fun _ => 0)))]) [0, 1] rfl
                have hDc := hD.sub (ws' := [(ne, .inr (6, [.ref n1, .ref n2, .ref n3, .ref n4, .ref n5])), (n1, .inl (cy 0, 8, .inl (fun _ => 0)))]) [0, 1] (by decide) rfl
                have hFc := va_free (wc := [(ne, .inr (6, [.ref n1, .ref n2, .ref n3, .ref n4, .ref n5])), (n1, .inl (cy 0, 8, .inl (fun _ => 0)))]) hD hS hA [0, 1] rfl
                refine va_calli (va_runV (As := [.int ((1 : Int32) <<< (p1 &&& 31))]) (rest := [.int ((1 : Int32) <<< (p1 &&& 31))]) ⟨hx, hb, hml, hown, hts⟩ (c_X1_tiedTo l hst D cy ed H.size ne n1 n2 n3 n4 n5 ((1 : Int32) <<< (p1 &&& 31))) (cwV 1 hts (zx_GV mm_561 mm_562 mm_563 mm_74 mm_564) rfl rfl rfl (by decide +kernel) ⟨(Nat.le_of_ble_eq_true rfl), (Nat.le_of_ble_eq_true rfl)⟩) ⟨zx_blind, va_recv hK hPc (ci := 6) (q0 := 0) rfl rfl, zx_give hPc hK hDc hS hFc hZ hN⟩ rfl rfl hl.1 rfl (lv_room (Nat.le_of_ble_eq_true rfl)) dX1_nearest_26 ⟨(Nat.le_of_ble_eq_true rfl), (Nat.le_of_ble_eq_true rfl)⟩) hS (fun q _ h => hFc q h) hFc (fun r9 u t H1 locs ht hvm hw hB hz1 hk1 hS => ?_)
                obtain rfl : r9 = 0 := hw
                obtain ⟨hP, hD⟩ := zx_join (wr := []) (w1 := [(ne, .inr (6, [.ref n1, .ref n2, .ref n3, .ref n4, .ref n5])), (n1, .inl (cy 0, 8, .inl (fun _ => 0)))]) [0, 1] [] rfl rfl (by decide) (by decide) hP hD hk1 hFc hB ht
                generalize H1 = H at hP hS ⊢
                have hP : va_P D vwCl [(ne, .inr (6, [.ref n1, .ref n2, .ref n3, .ref n4, .ref n5])), (n1, .inl (cy 0, 8, .inl (fun _ => 0)))] H := hP
                have hD : va_D A [(ne, .inr (6, [.ref n1, .ref n2, .ref n3, .ref n4, .ref n5])), (n1, .inl (cy 0, 8, .inl (fun _ => 0)))] := hD
                refine W.widen (k := 0) (n := 0) (Nat.le_of_ble_eq_true rfl) (Nat.le_of_ble_eq_true rfl) ?_
                refine lv_ior hx hb dX1_nearest_29 ?_
                refine lv_topi (fun y9 ey9 => ?_)
                obtain rfl : y9 = ((1 : Int32) <<< (p1 &&& 31)) := ey9.trans (zx_or0 _)
                refine lv_istore_n (lv' := [(3, .int ((1 : Int32) <<< (p1 &&& 31))), (4, .int 6), (0, .ref ne), (1, .int p0), (2, .int p1)]) hx hb dX1_nearest_30 rfl hl (by decide) rfl (fun ls hl => ?_)
                refine lv_iinc (v := 7) (lv' := [(4, .int 7), (3, .int ((1 : Int32) <<< (p1 &&& 31))), (0, .ref ne), (1, .int p0), (2, .int p1)]) hx hb dX1_nearest_31 hl (k := 1) rfl (by decide) (by decide) rfl (fun ls hl => ?_)
                refine lv_goto (tgt := 7) hx hb dX1_nearest_34 (by decide) ?_
                refine lv_iload hx hb dX1_nearest_7 (lv_at hl 0 rfl) ?_
                refine lv_bipush (v := 8) hx hb dX1_nearest_9 (by decide) ?_
                refine lv_icmp_ge (tgt := 37) hx hb dX1_nearest_11 (by decide) (fun c_188 => absurd c_188 (by decide)) (fun _ => ?_)
                refine lv_iload_n hx hb dX1_nearest_14 rfl (lv_at hl 3 rfl) ?_
                refine lv_iload_n hx hb dX1_nearest_15 rfl (lv_at hl 1 rfl) ?_
                refine lv_iand hx hb dX1_nearest_16 ?_
                refine lv_if_eq (tgt := 23) hx hb dX1_nearest_17 (by decide) (fun c_189 => ?_) (fun c_189 => ?_)
                ·
                  refine lv_iload_n hx hb dX1_nearest_23 rfl (lv_at hl 1 rfl) ?_
                  refine lv_aload_n hx hb dX1_nearest_24 rfl (lv_at hl 2 rfl) ?_
                  refine lv_iload_n hx hb dX1_nearest_25 rfl (lv_at hl 1 rfl) ?_
                  have hPc := hP.sub (ws' := [(ne, .inr (6, [.ref n1, .ref n2, .ref n3, .ref n4, .ref n5])), (n1, .inl (cy 0, 8, .inl (fun _ => 0)))]) [0, 1] rfl
                  have hDc := hD.sub (ws' := [(ne, .inr (6, [.ref n1, .ref n2, .ref n3, .ref n4, .ref n5])), (n1, .inl (cy 0, 8, .inl (fun _ => 0)))]) [0, 1] (by decide) rfl
                  have hFc := va_free (wc := [(ne, .inr (6, [.ref n1, .ref n2, .ref n3, .ref n4, .ref n5])), (n1, .inl (cy 0, 8, .inl (fun _ => 0)))]) hD hS hA [0, 1] rfl
                  refine va_calli (va_runV (As := [.int ((1 : Int32) <<< (p1 &&& 31))]) (rest := [.int ((1 : Int32) <<< (p1 &&& 31))]) ⟨hx, hb, hml, hown, hts⟩ (c_X1_tiedTo l hst D cy ed H.size ne n1 n2 n3 n4 n5 ((1 : Int32) <<< (p1 &&& 31))) (cwV 1 hts (zx_GV mm_561 mm_562 mm_563 mm_74 mm_564) rfl rfl rfl (by decide +kernel) ⟨(Nat.le_of_ble_eq_true rfl), (Nat.le_of_ble_eq_true rfl)⟩) ⟨zx_blind, va_recv hK hPc (ci := 6) (q0 := 0) rfl rfl, zx_give hPc hK hDc hS hFc hZ hN⟩ rfl rfl hl.1 rfl (lv_room (Nat.le_of_ble_eq_true rfl)) dX1_nearest_26 ⟨(Nat.le_of_ble_eq_true rfl), (Nat.le_of_ble_eq_true rfl)⟩) hS (fun q _ h => hFc q h) hFc (fun r9 u t H1 locs ht hvm hw hB hz1 hk1 hS => ?_)
                  obtain rfl : r9 = 0 := hw
                  obtain ⟨hP, hD⟩ := zx_join (wr := []) (w1 := [(ne, .inr (6, [.ref n1, .ref n2, .ref n3, .ref n4, .ref n5])), (n1, .inl (cy 0, 8, .inl (fun _ => 0)))]) [0, 1] [] rfl rfl (by decide) (by decide) hP hD hk1 hFc hB ht
                  generalize H1 = H at hP hS ⊢
                  have hP : va_P D vwCl [(ne, .inr (6, [.ref n1, .ref n2, .ref n3, .ref n4, .ref n5])), (n1, .inl (cy 0, 8, .inl (fun _ => 0)))] H := hP
                  have hD : va_D A [(ne, .inr (6, [.ref n1, .ref n2, .ref n3, .ref n4, .ref n5])), (n1, .inl (cy 0, 8, .inl (fun _ => 0)))] := hD
                  refine W.widen (k := 0) (n := 0) (Nat.le_of_ble_eq_true rfl) (Nat.le_of_ble_eq_true rfl) ?_
                  refine lv_ior hx hb dX1_nearest_29 ?_
                  refine lv_topi (fun y9 ey9 => ?_)
                  obtain rfl : y9 = ((1 : Int32) <<< (p1 &&& 31)) := ey9.trans (zx_or0 _)
                  refine lv_istore_n (lv' := [(3, .int ((1 : Int32) <<< (p1 &&& 31))), (4, .int 7), (0, .ref ne), (1, .int p0), (2, .int p1)]) hx hb dX1_nearest_30 rfl hl (by decide) rfl (fun ls hl => ?_)
                  refine lv_iinc (v := 8) (lv' := [(4, .int 8), (3, .int ((1 : Int32) <<< (p1 &&& 31))), (0, .ref ne), (1, .int p0), (2, .int p1)]) hx hb dX1_nearest_31 hl (k := 1) rfl (by decide) (by decide) rfl (fun ls hl => ?_)
                  refine lv_goto (tgt := 7) hx hb dX1_nearest_34 (by decide) ?_
                  refine lv_iload hx hb dX1_nearest_7 (lv_at hl 0 rfl) ?_
                  refine lv_bipush (v := 8) hx hb dX1_nearest_9 (by decide) ?_
                  refine lv_icmp_ge (tgt := 37) hx hb dX1_nearest_11 (by decide) (fun _ => ?_) (fun c_190 => absurd (by decide) c_190)
                  refine lv_iconst (v := (-1)) hx hb dX1_nearest_37 (by decide) ?_
                  have hP9 := hP.sub (ws' := []) [] rfl
                  have hD9 := hD.sub (ws' := []) [] (by decide) rfl
                  exact W.iret (v := (-1)) hx hb hr (fun t ht hW => ⟨⟨(-1), (), rfl, (if_pos c_189).symm, zx_fin hP9 hD9 hK ht hW⟩, hS.F ht⟩) hS.2.2 dX1_nearest_38
                ·
                  exact absurd c_175 c_189
              ·
                exact absurd c_175 c_187
            ·
              exact absurd c_175 c_185
          ·
            exact absurd c_175 c_183
        ·
          exact absurd c_175 c_181
      ·
        exact absurd c_175 c_179
    ·
      exact absurd c_175 c_177
  ·
    refine lv_iload hx hb dX1_nearest_20 (lv_at hl 0 rfl) ?_
    have hP9 := hP.sub (ws' := []) [] rfl
    have hD9 := hD.sub (ws' := []) [] (by decide) rfl
    exact W.iret (v := 0) hx hb hr (fun t ht hW => ⟨⟨0, (), rfl, (if_neg c_175).symm, zx_fin hP9 hD9 hK ht hW⟩, hS.F ht⟩) hS.2.2 dX1_nearest_22
set_option maxHeartbeats 4000000 in
set_option maxRecDepth 100000 in
theorem c_X8_distance (l : Launch) (hst : l.stackTraces = false) (D : va_G) (cy : Nat → ClassId) (ed sz : Nat) (h : Nat) (pe : Nat) (ne : Nat) (pa : Nat) (ro : Nat) (dy : Int32) (n1 : Nat) (n2 : Nat) (n3 : Nat) (n4 : Nat) (n5 : Nat) (p0 : Int32) (p1 : Int32) : vx_Met l yX8_distance wzX8_distance ({ frames := 7, cells := 4, slots := 24, locals := 101 }) (zx_Pc D cy ed sz [.ref h, .int p0, .int p1] [(h, .inr (13, [.ref pe, .ref ne, .ref pa, .ref ro, .int dy])), (ne, .inr (6, [.ref n1, .ref n2, .ref n3, .ref n4, .ref n5])), (n1, .inl (cy 0, 8, .inl (fun _ => 0)))]) (va_Qi (fun (r9 : Int32) (u9 : Unit) => r9 = (zx_near ((1 : Int32) <<< (p0 &&& 31)) p1) ∧ k_distance p0 p1 = 0) (fun (u9 : Unit) (t9 : State) => zx_At D cy (va_A [(h, .inr (13, [.ref pe, .ref ne, .ref pa, .ref ro, .int dy])), (ne, .inr (6, [.ref n1, .ref n2, .ref n3, .ref n4, .ref n5])), (n1, .inl (cy 0, 8, .inl (fun _ => 0)))] sz) [] t9) (va_A [(h, .inr (13, [.ref pe, .ref ne, .ref pa, .ref ro, .int dy])), (ne, .inr (6, [.ref n1, .ref n2, .ref n3, .ref n4, .ref n5])), (n1, .inl (cy 0, 8, .inl (fun _ => 0)))] sz)) (zx_X (fun E9 => (E9 = "java/lang/IllegalArgumentException" ∧ k_distance p0 p1 = 1)) (va_A [(h, .inr (13, [.ref pe, .ref ne, .ref pa, .ref ro, .int dy])), (ne, .inr (6, [.ref n1, .ref n2, .ref n3, .ref n4, .ref n5])), (n1, .inl (cy 0, 8, .inl (fun _ => 0)))] sz)) 4 24 (va_A [(h, .inr (13, [.ref pe, .ref ne, .ref pa, .ref ro, .int dy])), (ne, .inr (6, [.ref n1, .ref n2, .ref n3, .ref n4, .ref n5])), (n1, .inl (cy 0, 8, .inl (fun _ => 0)))] sz) := by
  refine vx_ofW (cc := cX8_distance) (maxL := 3) (ret := (some .int)) (by decide) rfl ?_
  intro p e s m args below meth c s₁ B hml htb hv
  obtain ⟨rfl, hsz, hP, hK, hD0, hZ, hN⟩ := hv
  have hx := B.exec
  have hb := B.bytes
  have hr := B.returns
  have hts := atoms_spec (ws := wzX8_distance) B.pre
  have hown : s.vm.findClass RX8 = some m.cls := findClass_of_methodNamed B.named
  have hlocks := B.notSynchronized
  subst hsz
  have hD := hD0.self (sz := s.heap.size)
  generalize hAe : va_A [(h, .inr (13, [.ref pe, .ref ne, .ref pa, .ref ro, .int dy])), (ne, .inr (6, [.ref n1, .ref n2, .ref n3, .ref n4, .ref n5])), (n1, .inl (cy 0, 8, .inl (fun _ => 0)))] s.heap.size = A at hD hZ ⊢
  have hA : ∀ q : Nat, s.heap.size ≤ q → A q := fun q h => by rw [← hAe]; exact Or.inr h
  have hS : va_S A s.heap s.heap [] := va_S.rf
  have hP : va_P D vwCl [(h, .inr (13, [.ref pe, .ref ne, .ref pa, .ref ro, .int dy])), (ne, .inr (6, [.ref n1, .ref n2, .ref n3, .ref n4, .ref n5])), (n1, .inl (cy 0, 8, .inl (fun _ => 0)))] s.heap := hP
  have hl := lv_entry ([.ref h, .int p0, .int p1]) (n := 3) (Nat.le_of_ble_eq_true rfl)
  rw [lg_entry_eq]
  generalize (lg_sl ([.ref h, .int p0, .int p1]) ++ List.replicate (3 - (lg_sl ([.ref h, .int p0, .int p1])).length) Slot.unset).toArray = ls at hl ⊢
  have hl : lv_has ls 3 [(0, .ref h), (1, .int p0), (2, .int p1)] := hl
  refine lv_iload_n hx hb dX8_distance_0 rfl (lv_at hl 1 rfl) ?_
  have hPc := hP.sub (ws' := []) [] rfl
  have hDc := hD.sub (ws' := []) [] (by decide) rfl
  have hFc := va_free (wc := []) hD hS hA [] rfl
  refine vx_callv (vx_runS (As := [.int p0]) (rest := []) ⟨hx, hb, hml, hown, hts⟩ (c_X8_needField l hst D cy ed s.heap.size p0) (va_cwS 1 hts (zx_GS mm_529 mm_530 mm_71 mm_531) rfl rfl rfl (by decide +kernel) ⟨(Nat.le_of_ble_eq_true rfl), (Nat.le_of_ble_eq_true rfl)⟩) ⟨zx_blind, zx_give hPc hK hDc hS hFc hZ hN⟩ rfl rfl hl.1 rfl (lv_room (Nat.le_of_ble_eq_true rfl)) dX8_distance_1 ⟨(Nat.le_of_ble_eq_true rfl), (Nat.le_of_ble_eq_true rfl)⟩) hS (fun q _ h => hFc q h) hFc (fun q _ h => hFc q h) (fun E9 ce9 q9 _ t H locs ht hvm _ hBX hz1 hk1 hS hce hcv hcl => ?_) (fun u t H locs ht hvm hw hB hz1 hk1 hS => ?_)
  · exact vx_out (fun x9 h9 => absurd h9 (htb x9)) hlocks hce hcv hcl (zx_pass (P := (fun E9 => (E9 = "java/lang/IllegalArgumentException" ∧ k_distance p0 p1 = 1))) hS (⟨hBX.1, by have h9 := hBX.2; simp [k_distance, h9]⟩)) hS.2.2 (Nat.le_of_ble_eq_true rfl) (Nat.le_of_ble_eq_true rfl)
  ·
    have h_191 := hw
    obtain ⟨hP, hD⟩ := zx_join (wr := [(h, .inr (13, [.ref pe, .ref ne, .ref pa, .ref ro, .int dy])), (ne, .inr (6, [.ref n1, .ref n2, .ref n3, .ref n4, .ref n5])), (n1, .inl (cy 0, 8, .inl (fun _ => 0)))]) (w1 := []) [] [0, 1, 2] rfl rfl (by decide) (by decide) hP hD hk1 hFc hB ht
    have hP : va_P D vwCl [(h, .inr (13, [.ref pe, .ref ne, .ref pa, .ref ro, .int dy])), (ne, .inr (6, [.ref n1, .ref n2, .ref n3, .ref n4, .ref n5])), (n1, .inl (cy 0, 8, .inl (fun _ => 0)))] H := hP
    have hD : va_D A [(h, .inr (13, [.ref pe, .ref ne, .ref pa, .ref ro, .int dy])), (ne, .inr (6, [.ref n1, .ref n2, .ref n3, .ref n4, .ref n5])), (n1, .inl (cy 0, 8, .inl (fun _ => 0)))] := hD
    refine W.widen (k := 1) (n := 6) (Nat.le_of_ble_eq_true rfl) (Nat.le_of_ble_eq_true rfl) ?_
    refine lv_iload_n hx hb dX8_distance_4 rfl (lv_at hl 2 rfl) ?_
    have hPc := hP.sub (ws' := []) [] rfl
    have hDc := hD.sub (ws' := []) [] (by decide) rfl
    have hFc := va_free (wc := []) hD hS hA [] rfl
    refine vx_callv (vx_runS (As := [.int p1]) (rest := []) ⟨hx, hb, hml, hown, hts⟩ (c_X8_needField l hst D cy ed H.size p1) (va_cwS 1 hts (zx_GS mm_529 mm_530 mm_71 mm_531) rfl rfl rfl (by decide +kernel) ⟨(Nat.le_of_ble_eq_true rfl), (Nat.le_of_ble_eq_true rfl)⟩) ⟨zx_blind, zx_give hPc hK hDc hS hFc hZ hN⟩ rfl rfl hl.1 rfl (lv_room (Nat.le_of_ble_eq_true rfl)) dX8_distance_5 ⟨(Nat.le_of_ble_eq_true rfl), (Nat.le_of_ble_eq_true rfl)⟩) hS (fun q _ h => hFc q h) hFc (fun q _ h => hFc q h) (fun E9 ce9 q9 _ t H locs ht hvm _ hBX hz1 hk1 hS hce hcv hcl => ?_) (fun u t H locs ht hvm hw hB hz1 hk1 hS => ?_)
    · exact vx_out (fun x9 h9 => absurd h9 (htb x9)) hlocks hce hcv hcl (zx_pass (P := (fun E9 => (E9 = "java/lang/IllegalArgumentException" ∧ k_distance p0 p1 = 1))) hS (⟨hBX.1, by have h9 := hBX.2; simp [k_distance, h9]⟩)) hS.2.2 (Nat.le_of_ble_eq_true rfl) (Nat.le_of_ble_eq_true rfl)
    ·
      have h_192 := hw
      obtain ⟨hP, hD⟩ := zx_join (wr := [(h, .inr (13, [.ref pe, .ref ne, .ref pa, .ref ro, .int dy])), (ne, .inr (6, [.ref n1, .ref n2, .ref n3, .ref n4, .ref n5])), (n1, .inl (cy 0, 8, .inl (fun _ => 0)))]) (w1 := []) [] [0, 1, 2] rfl rfl (by decide) (by decide) hP hD hk1 hFc hB ht
      have hP : va_P D vwCl [(h, .inr (13, [.ref pe, .ref ne, .ref pa, .ref ro, .int dy])), (ne, .inr (6, [.ref n1, .ref n2, .ref n3, .ref n4, .ref n5])), (n1, .inl (cy 0, 8, .inl (fun _ => 0)))] H := hP
      have hD : va_D A [(h, .inr (13, [.ref pe, .ref ne, .ref pa, .ref ro, .int dy])), (ne, .inr (6, [.ref n1, .ref n2, .ref n3, .ref n4, .ref n5])), (n1, .inl (cy 0, 8, .inl (fun _ => 0)))] := hD
      refine W.widen (k := 2) (n := 12) (Nat.le_of_ble_eq_true rfl) (Nat.le_of_ble_eq_true rfl) ?_
      refine lv_aload_n hx hb dX8_distance_8 rfl (lv_at hl 0 rfl) ?_
      refine va_get (D := D) (ci := 13) (v := .ref ne) (C := RX8) (T := TX8) (N := 5) hx hb hts (fun w h => zx_Gc (uz_X8 w h)) hown hK hP 0 rfl rfl 1 (by decide) (hts (.fieldLink RX8 19 "Refereehall" "net" "LRefereehall$Net;") (zx_Gc mm_229)) (fun _ h9 => h9) rfl dX8_distance_9 ?_
      refine lv_iconst (v := 1) hx hb dX8_distance_12 (by decide) ?_
      refine lv_iload_n hx hb dX8_distance_13 rfl (lv_at hl 1 rfl) ?_
      refine lv_ishl hx hb dX8_distance_14 ?_
      refine lv_iload_n hx hb dX8_distance_15 rfl (lv_at hl 2 rfl) ?_
      have hPc := hP.sub (ws' := [(ne, .inr (6, [.ref n1, .ref n2, .ref n3, .ref n4, .ref n5])), (n1, .inl (cy 0, 8, .inl (fun _ => 0)))]) [1, 2] rfl
      have hDc := hD.sub (ws' := [(ne, .inr (6, [.ref n1, .ref n2, .ref n3, .ref n4, .ref n5])), (n1, .inl (cy 0, 8, .inl (fun _ => 0)))]) [1, 2] (by decide) rfl
      have hFc := va_free (wc := [(ne, .inr (6, [.ref n1, .ref n2, .ref n3, .ref n4, .ref n5])), (n1, .inl (cy 0, 8, .inl (fun _ => 0)))]) hD hS hA [1, 2] rfl
      refine va_calli (va_runV (As := [.int ((1 : Int32) <<< (p0 &&& 31)), .int p1]) (rest := []) ⟨hx, hb, hml, hown, hts⟩ (c_X1_nearest l hst D cy ed H.size ne n1 n2 n3 n4 n5 ((1 : Int32) <<< (p0 &&& 31)) p1) (cwV 2 hts (zx_GV mm_557 mm_558 mm_559 mm_74 mm_560) rfl rfl rfl (by decide +kernel) ⟨(Nat.le_of_ble_eq_true rfl), (Nat.le_of_ble_eq_true rfl)⟩) ⟨zx_blind, va_recv hK hPc (ci := 6) (q0 := 0) rfl rfl, zx_give hPc hK hDc hS hFc hZ hN⟩ rfl rfl hl.1 rfl (lv_room (Nat.le_of_ble_eq_true rfl)) dX8_distance_16 ⟨(Nat.le_of_ble_eq_true rfl), (Nat.le_of_ble_eq_true rfl)⟩) hS (fun q _ h => hFc q h) hFc (fun r9 u t H1 locs ht hvm hw hB hz1 hk1 hS => ?_)
      obtain rfl : r9 = (zx_near ((1 : Int32) <<< (p0 &&& 31)) p1) := hw
      obtain ⟨hP, hD⟩ := zx_join (wr := [(h, .inr (13, [.ref pe, .ref ne, .ref pa, .ref ro, .int dy]))]) (w1 := []) [1, 2] [0] rfl rfl (by decide) (by decide) hP hD hk1 hFc hB ht
      generalize H1 = H at hP hS ⊢
      have hP : va_P D vwCl [(h, .inr (13, [.ref pe, .ref ne, .ref pa, .ref ro, .int dy]))] H := hP
      have hD : va_D A [(h, .inr (13, [.ref pe, .ref ne, .ref pa, .ref ro, .int dy]))] := hD
      refine W.widen (k := 2) (n := 12) (Nat.le_of_ble_eq_true rfl) (Nat.le_of_ble_eq_true rfl) ?_
      have hP9 := hP.sub (ws' := []) [] rfl
      have hD9 := hD.sub (ws' := []) [] (by decide) rfl
      refine W.widen (k := 4) (n := 24) (Nat.le_of_ble_eq_true rfl) (Nat.le_of_ble_eq_true rfl) ?_
      refine vx_ret ?_
      exact W.iret (v := (zx_near ((1 : Int32) <<< (p0 &&& 31)) p1)) hx hb hr (fun t ht hW => ⟨⟨(zx_near ((1 : Int32) <<< (p0 &&& 31)) p1), (), rfl, ⟨rfl, (by simp [k_distance, h_191, h_192])⟩, zx_fin hP9 hD9 hK ht hW⟩, hS.F ht⟩) hS.2.2 dX8_distance_19
set_option maxHeartbeats 4000000 in
set_option maxRecDepth 100000 in
theorem c_X8_setRules (l : Launch) (hst : l.stackTraces = false) (D : va_G) (cy : Nat → ClassId) (ed sz : Nat) (h : Nat) (pe : Nat) (ne : Nat) (pa : Nat) (ro : Nat) (dy : Int32) (n1 : Nat) (n2 : Nat) (n3 : Nat) (n4 : Nat) (n5 : Nat) (f1 : Nat → Int32) (f2 : Nat → Int32) (f3 : Nat → Int32) (f4 : Nat → Int32) (f5 : Nat → Int32) (p0 : Int32) (p1 : Int32) (p2 : Int32) (p3 : Int32) (p4 : Int32) (hw9 : ∀ j, j < 8 → f5 j = 115) : vx_Met l yX8_setRules wzX8_setRules ({ frames := 7, cells := 4, slots := 24, locals := 101 }) (zx_Pc D cy ed sz [.ref h, .int p0, .int p1, .int p2, .int p3, .int p4] [(h, .inr (13, [.ref pe, .ref ne, .ref pa, .ref ro, .int dy])), (ne, .inr (6, [.ref n1, .ref n2, .ref n3, .ref n4, .ref n5])), (n1, .inl (cy 0, 8, .inl f1)), (n2, .inl (cy 0, 8, .inl f2)), (n3, .inl (cy 0, 8, .inl f3)), (n4, .inl (cy 0, 8, .inl f4)), (n5, .inl (cy 1, 8, .inl f5))]) (va_Qi (fun (r9 : Int32) (u9 : Unit) => r9 = 115 ∧ k_setRules p0 p1 p2 p3 p4 = 0) (fun (u9 : Unit) (t9 : State) => zx_At D cy (va_A [(h, .inr (13, [.ref pe, .ref ne, .ref pa, .ref ro, .int dy])), (ne, .inr (6, [.ref n1, .ref n2, .ref n3, .ref n4, .ref n5])), (n1, .inl (cy 0, 8, .inl f1)), (n2, .inl (cy 0, 8, .inl f2)), (n3, .inl (cy 0, 8, .inl f3)), (n4, .inl (cy 0, 8, .inl f4)), (n5, .inl (cy 1, 8, .inl f5))] sz) [] t9) (va_A [(h, .inr (13, [.ref pe, .ref ne, .ref pa, .ref ro, .int dy])), (ne, .inr (6, [.ref n1, .ref n2, .ref n3, .ref n4, .ref n5])), (n1, .inl (cy 0, 8, .inl f1)), (n2, .inl (cy 0, 8, .inl f2)), (n3, .inl (cy 0, 8, .inl f3)), (n4, .inl (cy 0, 8, .inl f4)), (n5, .inl (cy 1, 8, .inl f5))] sz)) (zx_X (fun E9 => (E9 = "java/lang/IllegalArgumentException" ∧ k_setRules p0 p1 p2 p3 p4 = 1)) (va_A [(h, .inr (13, [.ref pe, .ref ne, .ref pa, .ref ro, .int dy])), (ne, .inr (6, [.ref n1, .ref n2, .ref n3, .ref n4, .ref n5])), (n1, .inl (cy 0, 8, .inl f1)), (n2, .inl (cy 0, 8, .inl f2)), (n3, .inl (cy 0, 8, .inl f3)), (n4, .inl (cy 0, 8, .inl f4)), (n5, .inl (cy 1, 8, .inl f5))] sz)) 4 24 (va_A [(h, .inr (13, [.ref pe, .ref ne, .ref pa, .ref ro, .int dy])), (ne, .inr (6, [.ref n1, .ref n2, .ref n3, .ref n4, .ref n5])), (n1, .inl (cy 0, 8, .inl f1)), (n2, .inl (cy 0, 8, .inl f2)), (n3, .inl (cy 0, 8, .inl f3)), (n4, .inl (cy 0, 8, .inl f4)), (n5, .inl (cy 1, 8, .inl f5))] sz) := by
  refine vx_ofW (cc := cX8_setRules) (maxL := 7) (ret := (some .char)) (by decide) rfl ?_
  intro p e s m args below meth c s₁ B hml htb hv
  obtain ⟨rfl, hsz, hP, hK, hD0, hZ, hN⟩ := hv
  have hx := B.exec
  have hb := B.bytes
  have hr := B.returns
  have hts := atoms_spec (ws := wzX8_setRules) B.pre
  have hown : s.vm.findClass RX8 = some m.cls := findClass_of_methodNamed B.named
  have hlocks := B.notSynchronized
  subst hsz
  have hD := hD0.self (sz := s.heap.size)
  generalize hAe : va_A [(h, .inr (13, [.ref pe, .ref ne, .ref pa, .ref ro, .int dy])), (ne, .inr (6, [.ref n1, .ref n2, .ref n3, .ref n4, .ref n5])), (n1, .inl (cy 0, 8, .inl f1)), (n2, .inl (cy 0, 8, .inl f2)), (n3, .inl (cy 0, 8, .inl f3)), (n4, .inl (cy 0, 8, .inl f4)), (n5, .inl (cy 1, 8, .inl f5))] s.heap.size = A at hD hZ ⊢
  have hA : ∀ q : Nat, s.heap.size ≤ q → A q := fun q h => by rw [← hAe]; exact Or.inr h
  have hS : va_S A s.heap s.heap [] := va_S.rf
  have hP : va_P D vwCl [(h, .inr (13, [.ref pe, .ref ne, .ref pa, .ref ro, .int dy])), (ne, .inr (6, [.ref n1, .ref n2, .ref n3, .ref n4, .ref n5])), (n1, .inl (cy 0, 8, .inl f1)), (n2, .inl (cy 0, 8, .inl f2)), (n3, .inl (cy 0, 8, .inl f3)), (n4, .inl (cy 0, 8, .inl f4)), (n5, .inl (cy 1, 8, .inl f5))] s.heap := hP
  have hl := lv_entry ([.ref h, .int p0, .int p1, .int p2, .int p3, .int p4]) (n := 7) (Nat.le_of_ble_eq_true rfl)
  rw [lg_entry_eq]
  generalize (lg_sl ([.ref h, .int p0, .int p1, .int p2, .int p3, .int p4]) ++ List.replicate (7 - (lg_sl ([.ref h, .int p0, .int p1, .int p2, .int p3, .int p4])).length) Slot.unset).toArray = ls at hl ⊢
  have hl : lv_has ls 7 [(0, .ref h), (1, .int p0), (2, .int p1), (3, .int p2), (4, .int p3), (5, .int p4)] := hl
  refine lv_iload_n hx hb dX8_setRules_0 rfl (lv_at hl 1 rfl) ?_
  have hPc := hP.sub (ws' := []) [] rfl
  have hDc := hD.sub (ws' := []) [] (by decide) rfl
  have hFc := va_free (wc := []) hD hS hA [] rfl
  refine vx_callv (vx_runS (As := [.int p0]) (rest := []) ⟨hx, hb, hml, hown, hts⟩ (c_X8_needField l hst D cy ed s.heap.size p0) (va_cwS 1 hts (zx_GS mm_529 mm_530 mm_71 mm_531) rfl rfl rfl (by decide +kernel) ⟨(Nat.le_of_ble_eq_true rfl), (Nat.le_of_ble_eq_true rfl)⟩) ⟨zx_blind, zx_give hPc hK hDc hS hFc hZ hN⟩ rfl rfl hl.1 rfl (lv_room (Nat.le_of_ble_eq_true rfl)) dX8_setRules_1 ⟨(Nat.le_of_ble_eq_true rfl), (Nat.le_of_ble_eq_true rfl)⟩) hS (fun q _ h => hFc q h) hFc (fun q _ h => hFc q h) (fun E9 ce9 q9 _ t H locs ht hvm _ hBX hz1 hk1 hS hce hcv hcl => ?_) (fun u t H locs ht hvm hw hB hz1 hk1 hS => ?_)
  · exact vx_out (fun x9 h9 => absurd h9 (htb x9)) hlocks hce hcv hcl (zx_pass (P := (fun E9 => (E9 = "java/lang/IllegalArgumentException" ∧ k_setRules p0 p1 p2 p3 p4 = 1))) hS (⟨hBX.1, by have h9 := hBX.2; simp [k_setRules, h9]⟩)) hS.2.2 (Nat.le_of_ble_eq_true rfl) (Nat.le_of_ble_eq_true rfl)
  ·
    have h_193 := hw
    obtain ⟨hP, hD⟩ := zx_join (wr := [(h, .inr (13, [.ref pe, .ref ne, .ref pa, .ref ro, .int dy])), (ne, .inr (6, [.ref n1, .ref n2, .ref n3, .ref n4, .ref n5])), (n1, .inl (cy 0, 8, .inl f1)), (n2, .inl (cy 0, 8, .inl f2)), (n3, .inl (cy 0, 8, .inl f3)), (n4, .inl (cy 0, 8, .inl f4)), (n5, .inl (cy 1, 8, .inl f5))]) (w1 := []) [] [0, 1, 2, 3, 4, 5, 6] rfl rfl (by decide) (by decide) hP hD hk1 hFc hB ht
    have hP : va_P D vwCl [(h, .inr (13, [.ref pe, .ref ne, .ref pa, .ref ro, .int dy])), (ne, .inr (6, [.ref n1, .ref n2, .ref n3, .ref n4, .ref n5])), (n1, .inl (cy 0, 8, .inl f1)), (n2, .inl (cy 0, 8, .inl f2)), (n3, .inl (cy 0, 8, .inl f3)), (n4, .inl (cy 0, 8, .inl f4)), (n5, .inl (cy 1, 8, .inl f5))] H := hP
    have hD : va_D A [(h, .inr (13, [.ref pe, .ref ne, .ref pa, .ref ro, .int dy])), (ne, .inr (6, [.ref n1, .ref n2, .ref n3, .ref n4, .ref n5])), (n1, .inl (cy 0, 8, .inl f1)), (n2, .inl (cy 0, 8, .inl f2)), (n3, .inl (cy 0, 8, .inl f3)), (n4, .inl (cy 0, 8, .inl f4)), (n5, .inl (cy 1, 8, .inl f5))] := hD
    refine W.widen (k := 1) (n := 6) (Nat.le_of_ble_eq_true rfl) (Nat.le_of_ble_eq_true rfl) ?_
    refine lv_iload_n hx hb dX8_setRules_4 rfl (lv_at hl 2 rfl) ?_
    refine lv_iconst (v := 2) hx hb dX8_setRules_5 (by decide) ?_
    refine lv_iconst (v := 4) hx hb dX8_setRules_6 (by decide) ?_
    have hPc := hP.sub (ws' := []) [] rfl
    have hDc := hD.sub (ws' := []) [] (by decide) rfl
    have hFc := va_free (wc := []) hD hS hA [] rfl
    refine va_calli (va_runS (As := [.int p1, .int 2, .int 4]) (rest := []) ⟨hx, hb, hml, hown, hts⟩ (c_X8_isWithin l hst D cy ed H.size p1 2 4) (va_cwS 3 hts (zx_GS mm_338 mm_339 mm_71 mm_340) rfl rfl rfl (by decide +kernel) ⟨(Nat.le_of_ble_eq_true rfl), (Nat.le_of_ble_eq_true rfl)⟩) ⟨zx_blind, zx_give hPc hK hDc hS hFc hZ hN⟩ rfl rfl hl.1 rfl (lv_room (Nat.le_of_ble_eq_true rfl)) dX8_setRules_7 ⟨(Nat.le_of_ble_eq_true rfl), (Nat.le_of_ble_eq_true rfl)⟩) hS (fun q _ h => hFc q h) hFc (fun r9 u t H1 locs ht hvm hw hB hz1 hk1 hS => ?_)
    obtain rfl : r9 = (zx_in p1 2 4) := hw
    obtain ⟨hP, hD⟩ := zx_join (wr := [(h, .inr (13, [.ref pe, .ref ne, .ref pa, .ref ro, .int dy])), (ne, .inr (6, [.ref n1, .ref n2, .ref n3, .ref n4, .ref n5])), (n1, .inl (cy 0, 8, .inl f1)), (n2, .inl (cy 0, 8, .inl f2)), (n3, .inl (cy 0, 8, .inl f3)), (n4, .inl (cy 0, 8, .inl f4)), (n5, .inl (cy 1, 8, .inl f5))]) (w1 := []) [] [0, 1, 2, 3, 4, 5, 6] rfl rfl (by decide) (by decide) hP hD hk1 hFc hB ht
    generalize H1 = H at hP hS ⊢
    have hP : va_P D vwCl [(h, .inr (13, [.ref pe, .ref ne, .ref pa, .ref ro, .int dy])), (ne, .inr (6, [.ref n1, .ref n2, .ref n3, .ref n4, .ref n5])), (n1, .inl (cy 0, 8, .inl f1)), (n2, .inl (cy 0, 8, .inl f2)), (n3, .inl (cy 0, 8, .inl f3)), (n4, .inl (cy 0, 8, .inl f4)), (n5, .inl (cy 1, 8, .inl f5))] H := hP
    have hD : va_D A [(h, .inr (13, [.ref pe, .ref ne, .ref pa, .ref ro, .int dy])), (ne, .inr (6, [.ref n1, .ref n2, .ref n3, .ref n4, .ref n5])), (n1, .inl (cy 0, 8, .inl f1)), (n2, .inl (cy 0, 8, .inl f2)), (n3, .inl (cy 0, 8, .inl f3)), (n4, .inl (cy 0, 8, .inl f4)), (n5, .inl (cy 1, 8, .inl f5))] := hD
    refine W.widen (k := 1) (n := 6) (Nat.le_of_ble_eq_true rfl) (Nat.le_of_ble_eq_true rfl) ?_
    refine lv_if_eq (tgt := 54) hx hb dX8_setRules_10 (by decide) (fun c_194 => ?_) (fun c_194 => ?_)
    ·
      have hat9 : ∀ w ∈ (vx_at0 RX8 45 "java/lang/IllegalArgumentException" ["java/lang/RuntimeException", "java/lang/Exception"]).filter goodWord, w ∈ wzX8_setRules := fun w h => zx_Gc (tw_RX8_45 w h)
      exact vx_throw0 (names := ["java/lang/RuntimeException", "java/lang/Exception"]) hx hb hst hown (by decide +kernel) (by decide +kernel) (hts (.classLink RX8 43 "java/lang/IllegalArgumentException") (zx_Gc mm_342)) (hts (.initialized "java/lang/IllegalArgumentException") (zx_Gc mm_82)) (vx_hat (B := (vx_at0 RX8 45 "java/lang/IllegalArgumentException" ["java/lang/RuntimeException", "java/lang/Exception"]).filter (fun w => !goodWord w)) (fun w9 h9 => hts w9 (hat9 w9 h9)) (fun _ h9 => h9) (zx_softs tv_RX8_45 hN)) (by decide +kernel) hZ.1 hZ.2.1 hS (hl.1.trans hml.symm) dX8_setRules_54 dX8_setRules_57 dX8_setRules_58 dX8_setRules_61 (fun x9 h9 => absurd h9 (htb x9)) (Nat.le_of_ble_eq_true rfl) (Nat.le_of_ble_eq_true rfl) (Nat.le_of_ble_eq_true rfl) (Nat.le_of_ble_eq_true rfl) hlocks (zx_thr (P := (fun E9 => (E9 = "java/lang/IllegalArgumentException" ∧ k_setRules p0 p1 p2 p3 p4 = 1))) hS (⟨rfl, (by simp [k_setRules, h_193, c_194])⟩)) hS.2.2 (Nat.le_of_ble_eq_true rfl) (Nat.le_of_ble_eq_true rfl)
    ·
      refine lv_iload_n hx hb dX8_setRules_13 rfl (lv_at hl 3 rfl) ?_
      refine lv_iconst (v := 0) hx hb dX8_setRules_14 (by decide) ?_
      refine lv_bipush (v := 100) hx hb dX8_setRules_15 (by decide) ?_
      have hPc := hP.sub (ws' := []) [] rfl
      have hDc := hD.sub (ws' := []) [] (by decide) rfl
      have hFc := va_free (wc := []) hD hS hA [] rfl
      refine va_calli (va_runS (As := [.int p2, .int 0, .int 100]) (rest := []) ⟨hx, hb, hml, hown, hts⟩ (c_X8_isWithin l hst D cy ed H.size p2 0 100) (va_cwS 3 hts (zx_GS mm_338 mm_339 mm_71 mm_340) rfl rfl rfl (by decide +kernel) ⟨(Nat.le_of_ble_eq_true rfl), (Nat.le_of_ble_eq_true rfl)⟩) ⟨zx_blind, zx_give hPc hK hDc hS hFc hZ hN⟩ rfl rfl hl.1 rfl (lv_room (Nat.le_of_ble_eq_true rfl)) dX8_setRules_17 ⟨(Nat.le_of_ble_eq_true rfl), (Nat.le_of_ble_eq_true rfl)⟩) hS (fun q _ h => hFc q h) hFc (fun r9 u t H1 locs ht hvm hw hB hz1 hk1 hS => ?_)
      obtain rfl : r9 = (zx_in p2 0 100) := hw
      obtain ⟨hP, hD⟩ := zx_join (wr := [(h, .inr (13, [.ref pe, .ref ne, .ref pa, .ref ro, .int dy])), (ne, .inr (6, [.ref n1, .ref n2, .ref n3, .ref n4, .ref n5])), (n1, .inl (cy 0, 8, .inl f1)), (n2, .inl (cy 0, 8, .inl f2)), (n3, .inl (cy 0, 8, .inl f3)), (n4, .inl (cy 0, 8, .inl f4)), (n5, .inl (cy 1, 8, .inl f5))]) (w1 := []) [] [0, 1, 2, 3, 4, 5, 6] rfl rfl (by decide) (by decide) hP hD hk1 hFc hB ht
      generalize H1 = H at hP hS ⊢
      have hP : va_P D vwCl [(h, .inr (13, [.ref pe, .ref ne, .ref pa, .ref ro, .int dy])), (ne, .inr (6, [.ref n1, .ref n2, .ref n3, .ref n4, .ref n5])), (n1, .inl (cy 0, 8, .inl f1)), (n2, .inl (cy 0, 8, .inl f2)), (n3, .inl (cy 0, 8, .inl f3)), (n4, .inl (cy 0, 8, .inl f4)), (n5, .inl (cy 1, 8, .inl f5))] H := hP
      have hD : va_D A [(h, .inr (13, [.ref pe, .ref ne, .ref pa, .ref ro, .int dy])), (ne, .inr (6, [.ref n1, .ref n2, .ref n3, .ref n4, .ref n5])), (n1, .inl (cy 0, 8, .inl f1)), (n2, .inl (cy 0, 8, .inl f2)), (n3, .inl (cy 0, 8, .inl f3)), (n4, .inl (cy 0, 8, .inl f4)), (n5, .inl (cy 1, 8, .inl f5))] := hD
      refine W.widen (k := 1) (n := 6) (Nat.le_of_ble_eq_true rfl) (Nat.le_of_ble_eq_true rfl) ?_
      refine lv_if_eq (tgt := 54) hx hb dX8_setRules_20 (by decide) (fun c_195 => ?_) (fun c_195 => ?_)
      ·
        have hat9 : ∀ w ∈ (vx_at0 RX8 45 "java/lang/IllegalArgumentException" ["java/lang/RuntimeException", "java/lang/Exception"]).filter goodWord, w ∈ wzX8_setRules := fun w h => zx_Gc (tw_RX8_45 w h)
        exact vx_throw0 (names := ["java/lang/RuntimeException", "java/lang/Exception"]) hx hb hst hown (by decide +kernel) (by decide +kernel) (hts (.classLink RX8 43 "java/lang/IllegalArgumentException") (zx_Gc mm_342)) (hts (.initialized "java/lang/IllegalArgumentException") (zx_Gc mm_82)) (vx_hat (B := (vx_at0 RX8 45 "java/lang/IllegalArgumentException" ["java/lang/RuntimeException", "java/lang/Exception"]).filter (fun w => !goodWord w)) (fun w9 h9 => hts w9 (hat9 w9 h9)) (fun _ h9 => h9) (zx_softs tv_RX8_45 hN)) (by decide +kernel) hZ.1 hZ.2.1 hS (hl.1.trans hml.symm) dX8_setRules_54 dX8_setRules_57 dX8_setRules_58 dX8_setRules_61 (fun x9 h9 => absurd h9 (htb x9)) (Nat.le_of_ble_eq_true rfl) (Nat.le_of_ble_eq_true rfl) (Nat.le_of_ble_eq_true rfl) (Nat.le_of_ble_eq_true rfl) hlocks (zx_thr (P := (fun E9 => (E9 = "java/lang/IllegalArgumentException" ∧ k_setRules p0 p1 p2 p3 p4 = 1))) hS (⟨rfl, (by simp [k_setRules, h_193, c_194, c_195])⟩)) hS.2.2 (Nat.le_of_ble_eq_true rfl) (Nat.le_of_ble_eq_true rfl)
      ·
        refine lv_iload hx hb dX8_setRules_23 (lv_at hl 4 rfl) ?_
        refine lv_iconst (v := 0) hx hb dX8_setRules_25 (by decide) ?_
        refine lv_iload_n hx hb dX8_setRules_26 rfl (lv_at hl 3 rfl) ?_
        have hPc := hP.sub (ws' := []) [] rfl
        have hDc := hD.sub (ws' := []) [] (by decide) rfl
        have hFc := va_free (wc := []) hD hS hA [] rfl
        refine va_calli (va_runS (As := [.int p3, .int 0, .int p2]) (rest := []) ⟨hx, hb, hml, hown, hts⟩ (c_X8_isWithin l hst D cy ed H.size p3 0 p2) (va_cwS 3 hts (zx_GS mm_338 mm_339 mm_71 mm_340) rfl rfl rfl (by decide +kernel) ⟨(Nat.le_of_ble_eq_true rfl), (Nat.le_of_ble_eq_true rfl)⟩) ⟨zx_blind, zx_give hPc hK hDc hS hFc hZ hN⟩ rfl rfl hl.1 rfl (lv_room (Nat.le_of_ble_eq_true rfl)) dX8_setRules_27 ⟨(Nat.le_of_ble_eq_true rfl), (Nat.le_of_ble_eq_true rfl)⟩) hS (fun q _ h => hFc q h) hFc (fun r9 u t H1 locs ht hvm hw hB hz1 hk1 hS => ?_)
        obtain rfl : r9 = (zx_in p3 0 p2) := hw
        obtain ⟨hP, hD⟩ := zx_join (wr := [(h, .inr (13, [.ref pe, .ref ne, .ref pa, .ref ro, .int dy])), (ne, .inr (6, [.ref n1, .ref n2, .ref n3, .ref n4, .ref n5])), (n1, .inl (cy 0, 8, .inl f1)), (n2, .inl (cy 0, 8, .inl f2)), (n3, .inl (cy 0, 8, .inl f3)), (n4, .inl (cy 0, 8, .inl f4)), (n5, .inl (cy 1, 8, .inl f5))]) (w1 := []) [] [0, 1, 2, 3, 4, 5, 6] rfl rfl (by decide) (by decide) hP hD hk1 hFc hB ht
        generalize H1 = H at hP hS ⊢
        have hP : va_P D vwCl [(h, .inr (13, [.ref pe, .ref ne, .ref pa, .ref ro, .int dy])), (ne, .inr (6, [.ref n1, .ref n2, .ref n3, .ref n4, .ref n5])), (n1, .inl (cy 0, 8, .inl f1)), (n2, .inl (cy 0, 8, .inl f2)), (n3, .inl (cy 0, 8, .inl f3)), (n4, .inl (cy 0, 8, .inl f4)), (n5, .inl (cy 1, 8, .inl f5))] H := hP
        have hD : va_D A [(h, .inr (13, [.ref pe, .ref ne, .ref pa, .ref ro, .int dy])), (ne, .inr (6, [.ref n1, .ref n2, .ref n3, .ref n4, .ref n5])), (n1, .inl (cy 0, 8, .inl f1)), (n2, .inl (cy 0, 8, .inl f2)), (n3, .inl (cy 0, 8, .inl f3)), (n4, .inl (cy 0, 8, .inl f4)), (n5, .inl (cy 1, 8, .inl f5))] := hD
        refine W.widen (k := 1) (n := 6) (Nat.le_of_ble_eq_true rfl) (Nat.le_of_ble_eq_true rfl) ?_
        refine lv_if_eq (tgt := 54) hx hb dX8_setRules_30 (by decide) (fun c_196 => ?_) (fun c_196 => ?_)
        ·
          have hat9 : ∀ w ∈ (vx_at0 RX8 45 "java/lang/IllegalArgumentException" ["java/lang/RuntimeException", "java/lang/Exception"]).filter goodWord, w ∈ wzX8_setRules := fun w h => zx_Gc (tw_RX8_45 w h)
          exact vx_throw0 (names := ["java/lang/RuntimeException", "java/lang/Exception"]) hx hb hst hown (by decide +kernel) (by decide +kernel) (hts (.classLink RX8 43 "java/lang/IllegalArgumentException") (zx_Gc mm_342)) (hts (.initialized "java/lang/IllegalArgumentException") (zx_Gc mm_82)) (vx_hat (B := (vx_at0 RX8 45 "java/lang/IllegalArgumentException" ["java/lang/RuntimeException", "java/lang/Exception"]).filter (fun w => !goodWord w)) (fun w9 h9 => hts w9 (hat9 w9 h9)) (fun _ h9 => h9) (zx_softs tv_RX8_45 hN)) (by decide +kernel) hZ.1 hZ.2.1 hS (hl.1.trans hml.symm) dX8_setRules_54 dX8_setRules_57 dX8_setRules_58 dX8_setRules_61 (fun x9 h9 => absurd h9 (htb x9)) (Nat.le_of_ble_eq_true rfl) (Nat.le_of_ble_eq_true rfl) (Nat.le_of_ble_eq_true rfl) (Nat.le_of_ble_eq_true rfl) hlocks (zx_thr (P := (fun E9 => (E9 = "java/lang/IllegalArgumentException" ∧ k_setRules p0 p1 p2 p3 p4 = 1))) hS (⟨rfl, (by simp [k_setRules, h_193, c_194, c_195, c_196])⟩)) hS.2.2 (Nat.le_of_ble_eq_true rfl) (Nat.le_of_ble_eq_true rfl)
        ·
          refine lv_iload hx hb dX8_setRules_33 (lv_at hl 5 rfl) ?_
          refine lv_bipush (v := 111) hx hb dX8_setRules_35 (by decide) ?_
          refine lv_icmp_eq (tgt := 62) hx hb dX8_setRules_37 (by decide) (fun c_197 => ?_) (fun c_197 => ?_)
          ·
            refine lv_aload_n hx hb dX8_setRules_62 rfl (lv_at hl 0 rfl) ?_
            refine va_get (D := D) (ci := 13) (v := .ref ne) (C := RX8) (T := TX8) (N := 5) hx hb hts (fun w h => zx_Gc (uz_X8 w h)) hown hK hP 0 rfl rfl 1 (by decide) (hts (.fieldLink RX8 19 "Refereehall" "net" "LRefereehall$Net;") (zx_Gc mm_229)) (fun _ h9 => h9) rfl dX8_setRules_63 ?_
            refine va_get (D := D) (ci := 6) (v := .ref n5) (C := RX1) (T := TX1) (N := 5) hx hb hts (fun w h => zx_Gc (uz_X1 w h)) hown hK hP 1 rfl rfl 4 (by decide) (hts (.fieldLink RX8 328 "Refereehall$Net" "way" "[C") (zx_Gc mm_186)) (fun _ h9 => h9) rfl dX8_setRules_66 ?_
            refine lv_iload_n hx hb dX8_setRules_69 rfl (lv_at hl 1 rfl) ?_
            refine va_cald hx hb hK hP 6 1 rfl rfl (zx_in8 h_193) dX8_setRules_70 ?_
            refine lv_topi (fun y9 ey9 => ?_)
            obtain rfl : y9 = 115 := by rw [ey9]; exact hw9 _ (zx_in8n h_193)
            refine lv_istore (lv' := [(6, .int 115), (0, .ref h), (1, .int p0), (2, .int p1), (3, .int p2), (4, .int p3), (5, .int p4)]) hx hb dX8_setRules_71 hl (by decide) rfl (fun ls hl => ?_)
            refine lv_aload_n hx hb dX8_setRules_73 rfl (lv_at hl 1 rfl) ?_
            refine va_get (D := D) (ci := 13) (v := .ref ne) (C := RX8) (T := TX8) (N := 5) hx hb hts (fun w h => zx_Gc (uz_X8 w h)) hown hK hP 0 rfl rfl 1 (by decide) (hts (.fieldLink RX8 19 "Refereehall" "net" "LRefereehall$Net;") (zx_Gc mm_229)) (fun _ h9 => h9) rfl dX8_setRules_74 ?_
            refine va_get (D := D) (ci := 6) (v := .ref n2) (C := RX1) (T := TX1) (N := 5) hx hb hts (fun w h => zx_Gc (uz_X1 w h)) hown hK hP 1 rfl rfl 1 (by decide) (hts (.fieldLink RX8 331 "Refereehall$Net" "needs" "[I") (zx_Gc mm_180)) (fun _ h9 => h9) rfl dX8_setRules_77 ?_
            refine lv_iload_n hx hb dX8_setRules_80 rfl (lv_at hl 2 rfl) ?_
            refine lv_iload_n hx hb dX8_setRules_81 rfl (lv_at hl 3 rfl) ?_
            refine va_iast hx hb hK hP hD hS 3 0 rfl rfl (zx_in8 h_193) dX8_setRules_82 (fun H locs hP hD hS => ?_)
            have hP : va_P D vwCl [(h, .inr (13, [.ref pe, .ref ne, .ref pa, .ref ro, .int dy])), (ne, .inr (6, [.ref n1, .ref n2, .ref n3, .ref n4, .ref n5])), (n1, .inl (cy 0, 8, .inl f1)), (n2, .inl (cy 0, 8, .inl (upd f2 p0.toNatClampNeg p1))), (n3, .inl (cy 0, 8, .inl f3)), (n4, .inl (cy 0, 8, .inl f4)), (n5, .inl (cy 1, 8, .inl f5))] H := hP
            have hD : va_D A [(h, .inr (13, [.ref pe, .ref ne, .ref pa, .ref ro, .int dy])), (ne, .inr (6, [.ref n1, .ref n2, .ref n3, .ref n4, .ref n5])), (n1, .inl (cy 0, 8, .inl f1)), (n2, .inl (cy 0, 8, .inl (upd f2 p0.toNatClampNeg p1))), (n3, .inl (cy 0, 8, .inl f3)), (n4, .inl (cy 0, 8, .inl f4)), (n5, .inl (cy 1, 8, .inl f5))] := hD
            refine lv_aload_n hx hb dX8_setRules_83 rfl (lv_at hl 1 rfl) ?_
            refine va_get (D := D) (ci := 13) (v := .ref ne) (C := RX8) (T := TX8) (N := 5) hx hb hts (fun w h => zx_Gc (uz_X8 w h)) hown hK hP 0 rfl rfl 1 (by decide) (hts (.fieldLink RX8 19 "Refereehall" "net" "LRefereehall$Net;") (zx_Gc mm_229)) (fun _ h9 => h9) rfl dX8_setRules_84 ?_
            refine va_get (D := D) (ci := 6) (v := .ref n3) (C := RX1) (T := TX1) (N := 5) hx hb hts (fun w h => zx_Gc (uz_X1 w h)) hown hK hP 1 rfl rfl 2 (by decide) (hts (.fieldLink RX8 334 "Refereehall$Net" "accepts" "[I") (zx_Gc mm_182)) (fun _ h9 => h9) rfl dX8_setRules_87 ?_
            refine lv_iload_n hx hb dX8_setRules_90 rfl (lv_at hl 2 rfl) ?_
            refine lv_iload_n hx hb dX8_setRules_91 rfl (lv_at hl 4 rfl) ?_
            refine va_iast hx hb hK hP hD hS 4 0 rfl rfl (zx_in8 h_193) dX8_setRules_92 (fun H locs hP hD hS => ?_)
            have hP : va_P D vwCl [(h, .inr (13, [.ref pe, .ref ne, .ref pa, .ref ro, .int dy])), (ne, .inr (6, [.ref n1, .ref n2, .ref n3, .ref n4, .ref n5])), (n1, .inl (cy 0, 8, .inl f1)), (n2, .inl (cy 0, 8, .inl (upd f2 p0.toNatClampNeg p1))), (n3, .inl (cy 0, 8, .inl (upd f3 p0.toNatClampNeg p2))), (n4, .inl (cy 0, 8, .inl f4)), (n5, .inl (cy 1, 8, .inl f5))] H := hP
            have hD : va_D A [(h, .inr (13, [.ref pe, .ref ne, .ref pa, .ref ro, .int dy])), (ne, .inr (6, [.ref n1, .ref n2, .ref n3, .ref n4, .ref n5])), (n1, .inl (cy 0, 8, .inl f1)), (n2, .inl (cy 0, 8, .inl (upd f2 p0.toNatClampNeg p1))), (n3, .inl (cy 0, 8, .inl (upd f3 p0.toNatClampNeg p2))), (n4, .inl (cy 0, 8, .inl f4)), (n5, .inl (cy 1, 8, .inl f5))] := hD
            refine lv_aload_n hx hb dX8_setRules_93 rfl (lv_at hl 1 rfl) ?_
            refine va_get (D := D) (ci := 13) (v := .ref ne) (C := RX8) (T := TX8) (N := 5) hx hb hts (fun w h => zx_Gc (uz_X8 w h)) hown hK hP 0 rfl rfl 1 (by decide) (hts (.fieldLink RX8 19 "Refereehall" "net" "LRefereehall$Net;") (zx_Gc mm_229)) (fun _ h9 => h9) rfl dX8_setRules_94 ?_
            refine va_get (D := D) (ci := 6) (v := .ref n4) (C := RX1) (T := TX1) (N := 5) hx hb hts (fun w h => zx_Gc (uz_X1 w h)) hown hK hP 1 rfl rfl 3 (by decide) (hts (.fieldLink RX8 337 "Refereehall$Net" "rejects" "[I") (zx_Gc mm_184)) (fun _ h9 => h9) rfl dX8_setRules_97 ?_
            refine lv_iload_n hx hb dX8_setRules_100 rfl (lv_at hl 2 rfl) ?_
            refine lv_iload hx hb dX8_setRules_101 (lv_at hl 5 rfl) ?_
            refine va_iast hx hb hK hP hD hS 5 0 rfl rfl (zx_in8 h_193) dX8_setRules_103 (fun H locs hP hD hS => ?_)
            have hP : va_P D vwCl [(h, .inr (13, [.ref pe, .ref ne, .ref pa, .ref ro, .int dy])), (ne, .inr (6, [.ref n1, .ref n2, .ref n3, .ref n4, .ref n5])), (n1, .inl (cy 0, 8, .inl f1)), (n2, .inl (cy 0, 8, .inl (upd f2 p0.toNatClampNeg p1))), (n3, .inl (cy 0, 8, .inl (upd f3 p0.toNatClampNeg p2))), (n4, .inl (cy 0, 8, .inl (upd f4 p0.toNatClampNeg p3))), (n5, .inl (cy 1, 8, .inl f5))] H := hP
            have hD : va_D A [(h, .inr (13, [.ref pe, .ref ne, .ref pa, .ref ro, .int dy])), (ne, .inr (6, [.ref n1, .ref n2, .ref n3, .ref n4, .ref n5])), (n1, .inl (cy 0, 8, .inl f1)), (n2, .inl (cy 0, 8, .inl (upd f2 p0.toNatClampNeg p1))), (n3, .inl (cy 0, 8, .inl (upd f3 p0.toNatClampNeg p2))), (n4, .inl (cy 0, 8, .inl (upd f4 p0.toNatClampNeg p3))), (n5, .inl (cy 1, 8, .inl f5))] := hD
            refine lv_aload_n hx hb dX8_setRules_104 rfl (lv_at hl 1 rfl) ?_
            refine va_get (D := D) (ci := 13) (v := .ref ne) (C := RX8) (T := TX8) (N := 5) hx hb hts (fun w h => zx_Gc (uz_X8 w h)) hown hK hP 0 rfl rfl 1 (by decide) (hts (.fieldLink RX8 19 "Refereehall" "net" "LRefereehall$Net;") (zx_Gc mm_229)) (fun _ h9 => h9) rfl dX8_setRules_105 ?_
            refine va_get (D := D) (ci := 6) (v := .ref n5) (C := RX1) (T := TX1) (N := 5) hx hb hts (fun w h => zx_Gc (uz_X1 w h)) hown hK hP 1 rfl rfl 4 (by decide) (hts (.fieldLink RX8 328 "Refereehall$Net" "way" "[C") (zx_Gc mm_186)) (fun _ h9 => h9) rfl dX8_setRules_108 ?_
            refine lv_iload_n hx hb dX8_setRules_111 rfl (lv_at hl 2 rfl) ?_
            refine lv_iload hx hb dX8_setRules_112 (lv_at hl 6 rfl) ?_
            refine va_cast hx hb hK hP hD hS 6 1 rfl rfl (zx_in8 h_193) dX8_setRules_114 (fun H locs hP hD hS => ?_)
            have hP : va_P D vwCl [(h, .inr (13, [.ref pe, .ref ne, .ref pa, .ref ro, .int dy])), (ne, .inr (6, [.ref n1, .ref n2, .ref n3, .ref n4, .ref n5])), (n1, .inl (cy 0, 8, .inl f1)), (n2, .inl (cy 0, 8, .inl (upd f2 p0.toNatClampNeg p1))), (n3, .inl (cy 0, 8, .inl (upd f3 p0.toNatClampNeg p2))), (n4, .inl (cy 0, 8, .inl (upd f4 p0.toNatClampNeg p3))), (n5, .inl (cy 1, 8, .inl (upd f5 p0.toNatClampNeg (vp_nar .char p4))))] H := hP
            have hD : va_D A [(h, .inr (13, [.ref pe, .ref ne, .ref pa, .ref ro, .int dy])), (ne, .inr (6, [.ref n1, .ref n2, .ref n3, .ref n4, .ref n5])), (n1, .inl (cy 0, 8, .inl f1)), (n2, .inl (cy 0, 8, .inl (upd f2 p0.toNatClampNeg p1))), (n3, .inl (cy 0, 8, .inl (upd f3 p0.toNatClampNeg p2))), (n4, .inl (cy 0, 8, .inl (upd f4 p0.toNatClampNeg p3))), (n5, .inl (cy 1, 8, .inl (upd f5 p0.toNatClampNeg (vp_nar .char p4))))] := hD
            refine lv_iload hx hb dX8_setRules_115 (lv_at hl 0 rfl) ?_
            have hP9 := hP.sub (ws' := []) [] rfl
            have hD9 := hD.sub (ws' := []) [] (by decide) rfl
            refine W.widen (k := 4) (n := 24) (Nat.le_of_ble_eq_true rfl) (Nat.le_of_ble_eq_true rfl) ?_
            refine vx_ret ?_
            exact W.zret (v := 115) hx hb hr rfl (fun t ht hW => ⟨⟨115, (), rfl, ⟨rfl, (by simp [k_setRules, h_193, c_194, c_195, c_196, c_197])⟩, zx_fin hP9 hD9 hK ht hW⟩, hS.F ht⟩) hS.2.2 dX8_setRules_117
          ·
            refine lv_iload hx hb dX8_setRules_40 (lv_at hl 5 rfl) ?_
            refine lv_bipush (v := 115) hx hb dX8_setRules_42 (by decide) ?_
            refine lv_icmp_eq (tgt := 62) hx hb dX8_setRules_44 (by decide) (fun c_198 => ?_) (fun c_198 => ?_)
            ·
              refine lv_aload_n hx hb dX8_setRules_62 rfl (lv_at hl 0 rfl) ?_
              refine va_get (D := D) (ci := 13) (v := .ref ne) (C := RX8) (T := TX8) (N := 5) hx hb hts (fun w h => zx_Gc (uz_X8 w h)) hown hK hP 0 rfl rfl 1 (by decide) (hts (.fieldLink RX8 19 "Refereehall" "net" "LRefereehall$Net;") (zx_Gc mm_229)) (fun _ h9 => h9) rfl dX8_setRules_63 ?_
              refine va_get (D := D) (ci := 6) (v := .ref n5) (C := RX1) (T := TX1) (N := 5) hx hb hts (fun w h => zx_Gc (uz_X1 w h)) hown hK hP 1 rfl rfl 4 (by decide) (hts (.fieldLink RX8 328 "Refereehall$Net" "way" "[C") (zx_Gc mm_186)) (fun _ h9 => h9) rfl dX8_setRules_66 ?_
              refine lv_iload_n hx hb dX8_setRules_69 rfl (lv_at hl 1 rfl) ?_
              refine va_cald hx hb hK hP 6 1 rfl rfl (zx_in8 h_193) dX8_setRules_70 ?_
              refine lv_topi (fun y9 ey9 => ?_)
              obtain rfl : y9 = 115 := by rw [ey9]; exact hw9 _ (zx_in8n h_193)
              refine lv_istore (lv' := [(6, .int 115), (0, .ref h), (1, .int p0), (2, .int p1), (3, .int p2), (4, .int p3), (5, .int p4)]) hx hb dX8_setRules_71 hl (by decide) rfl (fun ls hl => ?_)
              refine lv_aload_n hx hb dX8_setRules_73 rfl (lv_at hl 1 rfl) ?_
              refine va_get (D := D) (ci := 13) (v := .ref ne) (C := RX8) (T := TX8) (N := 5) hx hb hts (fun w h => zx_Gc (uz_X8 w h)) hown hK hP 0 rfl rfl 1 (by decide) (hts (.fieldLink RX8 19 "Refereehall" "net" "LRefereehall$Net;") (zx_Gc mm_229)) (fun _ h9 => h9) rfl dX8_setRules_74 ?_
              refine va_get (D := D) (ci := 6) (v := .ref n2) (C := RX1) (T := TX1) (N := 5) hx hb hts (fun w h => zx_Gc (uz_X1 w h)) hown hK hP 1 rfl rfl 1 (by decide) (hts (.fieldLink RX8 331 "Refereehall$Net" "needs" "[I") (zx_Gc mm_180)) (fun _ h9 => h9) rfl dX8_setRules_77 ?_
              refine lv_iload_n hx hb dX8_setRules_80 rfl (lv_at hl 2 rfl) ?_
              refine lv_iload_n hx hb dX8_setRules_81 rfl (lv_at hl 3 rfl) ?_
              refine va_iast hx hb hK hP hD hS 3 0 rfl rfl (zx_in8 h_193) dX8_setRules_82 (fun H locs hP hD hS => ?_)
              have hP : va_P D vwCl [(h, .inr (13, [.ref pe, .ref ne, .ref pa, .ref ro, .int dy])), (ne, .inr (6, [.ref n1, .ref n2, .ref n3, .ref n4, .ref n5])), (n1, .inl (cy 0, 8, .inl f1)), (n2, .inl (cy 0, 8, .inl (upd f2 p0.toNatClampNeg p1))), (n3, .inl (cy 0, 8, .inl f3)), (n4, .inl (cy 0, 8, .inl f4)), (n5, .inl (cy 1, 8, .inl f5))] H := hP
              have hD : va_D A [(h, .inr (13, [.ref pe, .ref ne, .ref pa, .ref ro, .int dy])), (ne, .inr (6, [.ref n1, .ref n2, .ref n3, .ref n4, .ref n5])), (n1, .inl (cy 0, 8, .inl f1)), (n2, .inl (cy 0, 8, .inl (upd f2 p0.toNatClampNeg p1))), (n3, .inl (cy 0, 8, .inl f3)), (n4, .inl (cy 0, 8, .inl f4)), (n5, .inl (cy 1, 8, .inl f5))] := hD
              refine lv_aload_n hx hb dX8_setRules_83 rfl (lv_at hl 1 rfl) ?_
              refine va_get (D := D) (ci := 13) (v := .ref ne) (C := RX8) (T := TX8) (N := 5) hx hb hts (fun w h => zx_Gc (uz_X8 w h)) hown hK hP 0 rfl rfl 1 (by decide) (hts (.fieldLink RX8 19 "Refereehall" "net" "LRefereehall$Net;") (zx_Gc mm_229)) (fun _ h9 => h9) rfl dX8_setRules_84 ?_
              refine va_get (D := D) (ci := 6) (v := .ref n3) (C := RX1) (T := TX1) (N := 5) hx hb hts (fun w h => zx_Gc (uz_X1 w h)) hown hK hP 1 rfl rfl 2 (by decide) (hts (.fieldLink RX8 334 "Refereehall$Net" "accepts" "[I") (zx_Gc mm_182)) (fun _ h9 => h9) rfl dX8_setRules_87 ?_
              refine lv_iload_n hx hb dX8_setRules_90 rfl (lv_at hl 2 rfl) ?_
              refine lv_iload_n hx hb dX8_setRules_91 rfl (lv_at hl 4 rfl) ?_
              refine va_iast hx hb hK hP hD hS 4 0 rfl rfl (zx_in8 h_193) dX8_setRules_92 (fun H locs hP hD hS => ?_)
              have hP : va_P D vwCl [(h, .inr (13, [.ref pe, .ref ne, .ref pa, .ref ro, .int dy])), (ne, .inr (6, [.ref n1, .ref n2, .ref n3, .ref n4, .ref n5])), (n1, .inl (cy 0, 8, .inl f1)), (n2, .inl (cy 0, 8, .inl (upd f2 p0.toNatClampNeg p1))), (n3, .inl (cy 0, 8, .inl (upd f3 p0.toNatClampNeg p2))), (n4, .inl (cy 0, 8, .inl f4)), (n5, .inl (cy 1, 8, .inl f5))] H := hP
              have hD : va_D A [(h, .inr (13, [.ref pe, .ref ne, .ref pa, .ref ro, .int dy])), (ne, .inr (6, [.ref n1, .ref n2, .ref n3, .ref n4, .ref n5])), (n1, .inl (cy 0, 8, .inl f1)), (n2, .inl (cy 0, 8, .inl (upd f2 p0.toNatClampNeg p1))), (n3, .inl (cy 0, 8, .inl (upd f3 p0.toNatClampNeg p2))), (n4, .inl (cy 0, 8, .inl f4)), (n5, .inl (cy 1, 8, .inl f5))] := hD
              refine lv_aload_n hx hb dX8_setRules_93 rfl (lv_at hl 1 rfl) ?_
              refine va_get (D := D) (ci := 13) (v := .ref ne) (C := RX8) (T := TX8) (N := 5) hx hb hts (fun w h => zx_Gc (uz_X8 w h)) hown hK hP 0 rfl rfl 1 (by decide) (hts (.fieldLink RX8 19 "Refereehall" "net" "LRefereehall$Net;") (zx_Gc mm_229)) (fun _ h9 => h9) rfl dX8_setRules_94 ?_
              refine va_get (D := D) (ci := 6) (v := .ref n4) (C := RX1) (T := TX1) (N := 5) hx hb hts (fun w h => zx_Gc (uz_X1 w h)) hown hK hP 1 rfl rfl 3 (by decide) (hts (.fieldLink RX8 337 "Refereehall$Net" "rejects" "[I") (zx_Gc mm_184)) (fun _ h9 => h9) rfl dX8_setRules_97 ?_
              refine lv_iload_n hx hb dX8_setRules_100 rfl (lv_at hl 2 rfl) ?_
              refine lv_iload hx hb dX8_setRules_101 (lv_at hl 5 rfl) ?_
              refine va_iast hx hb hK hP hD hS 5 0 rfl rfl (zx_in8 h_193) dX8_setRules_103 (fun H locs hP hD hS => ?_)
              have hP : va_P D vwCl [(h, .inr (13, [.ref pe, .ref ne, .ref pa, .ref ro, .int dy])), (ne, .inr (6, [.ref n1, .ref n2, .ref n3, .ref n4, .ref n5])), (n1, .inl (cy 0, 8, .inl f1)), (n2, .inl (cy 0, 8, .inl (upd f2 p0.toNatClampNeg p1))), (n3, .inl (cy 0, 8, .inl (upd f3 p0.toNatClampNeg p2))), (n4, .inl (cy 0, 8, .inl (upd f4 p0.toNatClampNeg p3))), (n5, .inl (cy 1, 8, .inl f5))] H := hP
              have hD : va_D A [(h, .inr (13, [.ref pe, .ref ne, .ref pa, .ref ro, .int dy])), (ne, .inr (6, [.ref n1, .ref n2, .ref n3, .ref n4, .ref n5])), (n1, .inl (cy 0, 8, .inl f1)), (n2, .inl (cy 0, 8, .inl (upd f2 p0.toNatClampNeg p1))), (n3, .inl (cy 0, 8, .inl (upd f3 p0.toNatClampNeg p2))), (n4, .inl (cy 0, 8, .inl (upd f4 p0.toNatClampNeg p3))), (n5, .inl (cy 1, 8, .inl f5))] := hD
              refine lv_aload_n hx hb dX8_setRules_104 rfl (lv_at hl 1 rfl) ?_
              refine va_get (D := D) (ci := 13) (v := .ref ne) (C := RX8) (T := TX8) (N := 5) hx hb hts (fun w h => zx_Gc (uz_X8 w h)) hown hK hP 0 rfl rfl 1 (by decide) (hts (.fieldLink RX8 19 "Refereehall" "net" "LRefereehall$Net;") (zx_Gc mm_229)) (fun _ h9 => h9) rfl dX8_setRules_105 ?_
              refine va_get (D := D) (ci := 6) (v := .ref n5) (C := RX1) (T := TX1) (N := 5) hx hb hts (fun w h => zx_Gc (uz_X1 w h)) hown hK hP 1 rfl rfl 4 (by decide) (hts (.fieldLink RX8 328 "Refereehall$Net" "way" "[C") (zx_Gc mm_186)) (fun _ h9 => h9) rfl dX8_setRules_108 ?_
              refine lv_iload_n hx hb dX8_setRules_111 rfl (lv_at hl 2 rfl) ?_
              refine lv_iload hx hb dX8_setRules_112 (lv_at hl 6 rfl) ?_
              refine va_cast hx hb hK hP hD hS 6 1 rfl rfl (zx_in8 h_193) dX8_setRules_114 (fun H locs hP hD hS => ?_)
              have hP : va_P D vwCl [(h, .inr (13, [.ref pe, .ref ne, .ref pa, .ref ro, .int dy])), (ne, .inr (6, [.ref n1, .ref n2, .ref n3, .ref n4, .ref n5])), (n1, .inl (cy 0, 8, .inl f1)), (n2, .inl (cy 0, 8, .inl (upd f2 p0.toNatClampNeg p1))), (n3, .inl (cy 0, 8, .inl (upd f3 p0.toNatClampNeg p2))), (n4, .inl (cy 0, 8, .inl (upd f4 p0.toNatClampNeg p3))), (n5, .inl (cy 1, 8, .inl (upd f5 p0.toNatClampNeg (vp_nar .char p4))))] H := hP
              have hD : va_D A [(h, .inr (13, [.ref pe, .ref ne, .ref pa, .ref ro, .int dy])), (ne, .inr (6, [.ref n1, .ref n2, .ref n3, .ref n4, .ref n5])), (n1, .inl (cy 0, 8, .inl f1)), (n2, .inl (cy 0, 8, .inl (upd f2 p0.toNatClampNeg p1))), (n3, .inl (cy 0, 8, .inl (upd f3 p0.toNatClampNeg p2))), (n4, .inl (cy 0, 8, .inl (upd f4 p0.toNatClampNeg p3))), (n5, .inl (cy 1, 8, .inl (upd f5 p0.toNatClampNeg (vp_nar .char p4))))] := hD
              refine lv_iload hx hb dX8_setRules_115 (lv_at hl 0 rfl) ?_
              have hP9 := hP.sub (ws' := []) [] rfl
              have hD9 := hD.sub (ws' := []) [] (by decide) rfl
              refine W.widen (k := 4) (n := 24) (Nat.le_of_ble_eq_true rfl) (Nat.le_of_ble_eq_true rfl) ?_
              refine vx_ret ?_
              exact W.zret (v := 115) hx hb hr rfl (fun t ht hW => ⟨⟨115, (), rfl, ⟨rfl, (by simp [k_setRules, h_193, c_194, c_195, c_196, c_197, c_198])⟩, zx_fin hP9 hD9 hK ht hW⟩, hS.F ht⟩) hS.2.2 dX8_setRules_117
            ·
              refine lv_iload hx hb dX8_setRules_47 (lv_at hl 5 rfl) ?_
              refine lv_bipush (v := 100) hx hb dX8_setRules_49 (by decide) ?_
              refine lv_icmp_eq (tgt := 62) hx hb dX8_setRules_51 (by decide) (fun c_199 => ?_) (fun c_199 => ?_)
              ·
                refine lv_aload_n hx hb dX8_setRules_62 rfl (lv_at hl 0 rfl) ?_
                refine va_get (D := D) (ci := 13) (v := .ref ne) (C := RX8) (T := TX8) (N := 5) hx hb hts (fun w h => zx_Gc (uz_X8 w h)) hown hK hP 0 rfl rfl 1 (by decide) (hts (.fieldLink RX8 19 "Refereehall" "net" "LRefereehall$Net;") (zx_Gc mm_229)) (fun _ h9 => h9) rfl dX8_setRules_63 ?_
                refine va_get (D := D) (ci := 6) (v := .ref n5) (C := RX1) (T := TX1) (N := 5) hx hb hts (fun w h => zx_Gc (uz_X1 w h)) hown hK hP 1 rfl rfl 4 (by decide) (hts (.fieldLink RX8 328 "Refereehall$Net" "way" "[C") (zx_Gc mm_186)) (fun _ h9 => h9) rfl dX8_setRules_66 ?_
                refine lv_iload_n hx hb dX8_setRules_69 rfl (lv_at hl 1 rfl) ?_
                refine va_cald hx hb hK hP 6 1 rfl rfl (zx_in8 h_193) dX8_setRules_70 ?_
                refine lv_topi (fun y9 ey9 => ?_)
                obtain rfl : y9 = 115 := by rw [ey9]; exact hw9 _ (zx_in8n h_193)
                refine lv_istore (lv' := [(6, .int 115), (0, .ref h), (1, .int p0), (2, .int p1), (3, .int p2), (4, .int p3), (5, .int p4)]) hx hb dX8_setRules_71 hl (by decide) rfl (fun ls hl => ?_)
                refine lv_aload_n hx hb dX8_setRules_73 rfl (lv_at hl 1 rfl) ?_
                refine va_get (D := D) (ci := 13) (v := .ref ne) (C := RX8) (T := TX8) (N := 5) hx hb hts (fun w h => zx_Gc (uz_X8 w h)) hown hK hP 0 rfl rfl 1 (by decide) (hts (.fieldLink RX8 19 "Refereehall" "net" "LRefereehall$Net;") (zx_Gc mm_229)) (fun _ h9 => h9) rfl dX8_setRules_74 ?_
                refine va_get (D := D) (ci := 6) (v := .ref n2) (C := RX1) (T := TX1) (N := 5) hx hb hts (fun w h => zx_Gc (uz_X1 w h)) hown hK hP 1 rfl rfl 1 (by decide) (hts (.fieldLink RX8 331 "Refereehall$Net" "needs" "[I") (zx_Gc mm_180)) (fun _ h9 => h9) rfl dX8_setRules_77 ?_
                refine lv_iload_n hx hb dX8_setRules_80 rfl (lv_at hl 2 rfl) ?_
                refine lv_iload_n hx hb dX8_setRules_81 rfl (lv_at hl 3 rfl) ?_
                refine va_iast hx hb hK hP hD hS 3 0 rfl rfl (zx_in8 h_193) dX8_setRules_82 (fun H locs hP hD hS => ?_)
                have hP : va_P D vwCl [(h, .inr (13, [.ref pe, .ref ne, .ref pa, .ref ro, .int dy])), (ne, .inr (6, [.ref n1, .ref n2, .ref n3, .ref n4, .ref n5])), (n1, .inl (cy 0, 8, .inl f1)), (n2, .inl (cy 0, 8, .inl (upd f2 p0.toNatClampNeg p1))), (n3, .inl (cy 0, 8, .inl f3)), (n4, .inl (cy 0, 8, .inl f4)), (n5, .inl (cy 1, 8, .inl f5))] H := hP
                have hD : va_D A [(h, .inr (13, [.ref pe, .ref ne, .ref pa, .ref ro, .int dy])), (ne, .inr (6, [.ref n1, .ref n2, .ref n3, .ref n4, .ref n5])), (n1, .inl (cy 0, 8, .inl f1)), (n2, .inl (cy 0, 8, .inl (upd f2 p0.toNatClampNeg p1))), (n3, .inl (cy 0, 8, .inl f3)), (n4, .inl (cy 0, 8, .inl f4)), (n5, .inl (cy 1, 8, .inl f5))] := hD
                refine lv_aload_n hx hb dX8_setRules_83 rfl (lv_at hl 1 rfl) ?_
                refine va_get (D := D) (ci := 13) (v := .ref ne) (C := RX8) (T := TX8) (N := 5) hx hb hts (fun w h => zx_Gc (uz_X8 w h)) hown hK hP 0 rfl rfl 1 (by decide) (hts (.fieldLink RX8 19 "Refereehall" "net" "LRefereehall$Net;") (zx_Gc mm_229)) (fun _ h9 => h9) rfl dX8_setRules_84 ?_
                refine va_get (D := D) (ci := 6) (v := .ref n3) (C := RX1) (T := TX1) (N := 5) hx hb hts (fun w h => zx_Gc (uz_X1 w h)) hown hK hP 1 rfl rfl 2 (by decide) (hts (.fieldLink RX8 334 "Refereehall$Net" "accepts" "[I") (zx_Gc mm_182)) (fun _ h9 => h9) rfl dX8_setRules_87 ?_
                refine lv_iload_n hx hb dX8_setRules_90 rfl (lv_at hl 2 rfl) ?_
                refine lv_iload_n hx hb dX8_setRules_91 rfl (lv_at hl 4 rfl) ?_
                refine va_iast hx hb hK hP hD hS 4 0 rfl rfl (zx_in8 h_193) dX8_setRules_92 (fun H locs hP hD hS => ?_)
                have hP : va_P D vwCl [(h, .inr (13, [.ref pe, .ref ne, .ref pa, .ref ro, .int dy])), (ne, .inr (6, [.ref n1, .ref n2, .ref n3, .ref n4, .ref n5])), (n1, .inl (cy 0, 8, .inl f1)), (n2, .inl (cy 0, 8, .inl (upd f2 p0.toNatClampNeg p1))), (n3, .inl (cy 0, 8, .inl (upd f3 p0.toNatClampNeg p2))), (n4, .inl (cy 0, 8, .inl f4)), (n5, .inl (cy 1, 8, .inl f5))] H := hP
                have hD : va_D A [(h, .inr (13, [.ref pe, .ref ne, .ref pa, .ref ro, .int dy])), (ne, .inr (6, [.ref n1, .ref n2, .ref n3, .ref n4, .ref n5])), (n1, .inl (cy 0, 8, .inl f1)), (n2, .inl (cy 0, 8, .inl (upd f2 p0.toNatClampNeg p1))), (n3, .inl (cy 0, 8, .inl (upd f3 p0.toNatClampNeg p2))), (n4, .inl (cy 0, 8, .inl f4)), (n5, .inl (cy 1, 8, .inl f5))] := hD
                refine lv_aload_n hx hb dX8_setRules_93 rfl (lv_at hl 1 rfl) ?_
                refine va_get (D := D) (ci := 13) (v := .ref ne) (C := RX8) (T := TX8) (N := 5) hx hb hts (fun w h => zx_Gc (uz_X8 w h)) hown hK hP 0 rfl rfl 1 (by decide) (hts (.fieldLink RX8 19 "Refereehall" "net" "LRefereehall$Net;") (zx_Gc mm_229)) (fun _ h9 => h9) rfl dX8_setRules_94 ?_
                refine va_get (D := D) (ci := 6) (v := .ref n4) (C := RX1) (T := TX1) (N := 5) hx hb hts (fun w h => zx_Gc (uz_X1 w h)) hown hK hP 1 rfl rfl 3 (by decide) (hts (.fieldLink RX8 337 "Refereehall$Net" "rejects" "[I") (zx_Gc mm_184)) (fun _ h9 => h9) rfl dX8_setRules_97 ?_
                refine lv_iload_n hx hb dX8_setRules_100 rfl (lv_at hl 2 rfl) ?_
                refine lv_iload hx hb dX8_setRules_101 (lv_at hl 5 rfl) ?_
                refine va_iast hx hb hK hP hD hS 5 0 rfl rfl (zx_in8 h_193) dX8_setRules_103 (fun H locs hP hD hS => ?_)
                have hP : va_P D vwCl [(h, .inr (13, [.ref pe, .ref ne, .ref pa, .ref ro, .int dy])), (ne, .inr (6, [.ref n1, .ref n2, .ref n3, .ref n4, .ref n5])), (n1, .inl (cy 0, 8, .inl f1)), (n2, .inl (cy 0, 8, .inl (upd f2 p0.toNatClampNeg p1))), (n3, .inl (cy 0, 8, .inl (upd f3 p0.toNatClampNeg p2))), (n4, .inl (cy 0, 8, .inl (upd f4 p0.toNatClampNeg p3))), (n5, .inl (cy 1, 8, .inl f5))] H := hP
                have hD : va_D A [(h, .inr (13, [.ref pe, .ref ne, .ref pa, .ref ro, .int dy])), (ne, .inr (6, [.ref n1, .ref n2, .ref n3, .ref n4, .ref n5])), (n1, .inl (cy 0, 8, .inl f1)), (n2, .inl (cy 0, 8, .inl (upd f2 p0.toNatClampNeg p1))), (n3, .inl (cy 0, 8, .inl (upd f3 p0.toNatClampNeg p2))), (n4, .inl (cy 0, 8, .inl (upd f4 p0.toNatClampNeg p3))), (n5, .inl (cy 1, 8, .inl f5))] := hD
                refine lv_aload_n hx hb dX8_setRules_104 rfl (lv_at hl 1 rfl) ?_
                refine va_get (D := D) (ci := 13) (v := .ref ne) (C := RX8) (T := TX8) (N := 5) hx hb hts (fun w h => zx_Gc (uz_X8 w h)) hown hK hP 0 rfl rfl 1 (by decide) (hts (.fieldLink RX8 19 "Refereehall" "net" "LRefereehall$Net;") (zx_Gc mm_229)) (fun _ h9 => h9) rfl dX8_setRules_105 ?_
                refine va_get (D := D) (ci := 6) (v := .ref n5) (C := RX1) (T := TX1) (N := 5) hx hb hts (fun w h => zx_Gc (uz_X1 w h)) hown hK hP 1 rfl rfl 4 (by decide) (hts (.fieldLink RX8 328 "Refereehall$Net" "way" "[C") (zx_Gc mm_186)) (fun _ h9 => h9) rfl dX8_setRules_108 ?_
                refine lv_iload_n hx hb dX8_setRules_111 rfl (lv_at hl 2 rfl) ?_
                refine lv_iload hx hb dX8_setRules_112 (lv_at hl 6 rfl) ?_
                refine va_cast hx hb hK hP hD hS 6 1 rfl rfl (zx_in8 h_193) dX8_setRules_114 (fun H locs hP hD hS => ?_)
                have hP : va_P D vwCl [(h, .inr (13, [.ref pe, .ref ne, .ref pa, .ref ro, .int dy])), (ne, .inr (6, [.ref n1, .ref n2, .ref n3, .ref n4, .ref n5])), (n1, .inl (cy 0, 8, .inl f1)), (n2, .inl (cy 0, 8, .inl (upd f2 p0.toNatClampNeg p1))), (n3, .inl (cy 0, 8, .inl (upd f3 p0.toNatClampNeg p2))), (n4, .inl (cy 0, 8, .inl (upd f4 p0.toNatClampNeg p3))), (n5, .inl (cy 1, 8, .inl (upd f5 p0.toNatClampNeg (vp_nar .char p4))))] H := hP
                have hD : va_D A [(h, .inr (13, [.ref pe, .ref ne, .ref pa, .ref ro, .int dy])), (ne, .inr (6, [.ref n1, .ref n2, .ref n3, .ref n4, .ref n5])), (n1, .inl (cy 0, 8, .inl f1)), (n2, .inl (cy 0, 8, .inl (upd f2 p0.toNatClampNeg p1))), (n3, .inl (cy 0, 8, .inl (upd f3 p0.toNatClampNeg p2))), (n4, .inl (cy 0, 8, .inl (upd f4 p0.toNatClampNeg p3))), (n5, .inl (cy 1, 8, .inl (upd f5 p0.toNatClampNeg (vp_nar .char p4))))] := hD
                refine lv_iload hx hb dX8_setRules_115 (lv_at hl 0 rfl) ?_
                have hP9 := hP.sub (ws' := []) [] rfl
                have hD9 := hD.sub (ws' := []) [] (by decide) rfl
                refine W.widen (k := 4) (n := 24) (Nat.le_of_ble_eq_true rfl) (Nat.le_of_ble_eq_true rfl) ?_
                refine vx_ret ?_
                exact W.zret (v := 115) hx hb hr rfl (fun t ht hW => ⟨⟨115, (), rfl, ⟨rfl, (by simp [k_setRules, h_193, c_194, c_195, c_196, c_197, c_198, c_199])⟩, zx_fin hP9 hD9 hK ht hW⟩, hS.F ht⟩) hS.2.2 dX8_setRules_117
              ·
                have hat9 : ∀ w ∈ (vx_at0 RX8 45 "java/lang/IllegalArgumentException" ["java/lang/RuntimeException", "java/lang/Exception"]).filter goodWord, w ∈ wzX8_setRules := fun w h => zx_Gc (tw_RX8_45 w h)
                exact vx_throw0 (names := ["java/lang/RuntimeException", "java/lang/Exception"]) hx hb hst hown (by decide +kernel) (by decide +kernel) (hts (.classLink RX8 43 "java/lang/IllegalArgumentException") (zx_Gc mm_342)) (hts (.initialized "java/lang/IllegalArgumentException") (zx_Gc mm_82)) (vx_hat (B := (vx_at0 RX8 45 "java/lang/IllegalArgumentException" ["java/lang/RuntimeException", "java/lang/Exception"]).filter (fun w => !goodWord w)) (fun w9 h9 => hts w9 (hat9 w9 h9)) (fun _ h9 => h9) (zx_softs tv_RX8_45 hN)) (by decide +kernel) hZ.1 hZ.2.1 hS (hl.1.trans hml.symm) dX8_setRules_54 dX8_setRules_57 dX8_setRules_58 dX8_setRules_61 (fun x9 h9 => absurd h9 (htb x9)) (Nat.le_of_ble_eq_true rfl) (Nat.le_of_ble_eq_true rfl) (Nat.le_of_ble_eq_true rfl) (Nat.le_of_ble_eq_true rfl) hlocks (zx_thr (P := (fun E9 => (E9 = "java/lang/IllegalArgumentException" ∧ k_setRules p0 p1 p2 p3 p4 = 1))) hS (⟨rfl, (by simp [k_setRules, h_193, c_194, c_195, c_196, c_197, c_198, c_199])⟩)) hS.2.2 (Nat.le_of_ble_eq_true rfl) (Nat.le_of_ble_eq_true rfl)
set_option maxHeartbeats 4000000 in
set_option maxRecDepth 100000 in
theorem c_X8_goOn (l : Launch) (hst : l.stackTraces = false) (D : va_G) (cy : Nat → ClassId) (ed sz : Nat) (h : Nat) (pe : Nat) (ne : Nat) (pa : Nat) (ro : Nat) (dy : Int32) (mc : Int32) (el : Nat) (p0 : Int32) : vx_Met l yX8_goOn wzX8_goOn ({ frames := 6, cells := 1, slots := 6, locals := 81 }) (zx_Pc D cy ed sz [.ref h, .int p0] [(h, .inr (13, [.ref pe, .ref ne, .ref pa, .ref ro, .int dy])), (pa, .inr (4, [.int mc, .ref el, .int 0]))]) (va_Qi (fun (r9 : Int32) (u9 : Unit) => r9 = 0 ∧ k_goOn p0 = 0) (fun (u9 : Unit) (t9 : State) => zx_At D cy (va_A [(h, .inr (13, [.ref pe, .ref ne, .ref pa, .ref ro, .int dy])), (pa, .inr (4, [.int mc, .ref el, .int 0]))] sz) [] t9) (va_A [(h, .inr (13, [.ref pe, .ref ne, .ref pa, .ref ro, .int dy])), (pa, .inr (4, [.int mc, .ref el, .int 0]))] sz)) (zx_X (fun E9 => (E9 = "java/lang/IllegalArgumentException" ∧ k_goOn p0 = 1)) (va_A [(h, .inr (13, [.ref pe, .ref ne, .ref pa, .ref ro, .int dy])), (pa, .inr (4, [.int mc, .ref el, .int 0]))] sz)) 1 6 (va_A [(h, .inr (13, [.ref pe, .ref ne, .ref pa, .ref ro, .int dy])), (pa, .inr (4, [.int mc, .ref el, .int 0]))] sz) := by
  refine vx_ofW (cc := cX8_goOn) (maxL := 4) (ret := (some .int)) (by decide) rfl ?_
  intro p e s m args below meth c s₁ B hml htb hv
  obtain ⟨rfl, hsz, hP, hK, hD0, hZ, hN⟩ := hv
  have hx := B.exec
  have hb := B.bytes
  have hr := B.returns
  have hts := atoms_spec (ws := wzX8_goOn) B.pre
  have hown : s.vm.findClass RX8 = some m.cls := findClass_of_methodNamed B.named
  have hlocks := B.notSynchronized
  subst hsz
  have hD := hD0.self (sz := s.heap.size)
  generalize hAe : va_A [(h, .inr (13, [.ref pe, .ref ne, .ref pa, .ref ro, .int dy])), (pa, .inr (4, [.int mc, .ref el, .int 0]))] s.heap.size = A at hD hZ ⊢
  have hA : ∀ q : Nat, s.heap.size ≤ q → A q := fun q h => by rw [← hAe]; exact Or.inr h
  have hS : va_S A s.heap s.heap [] := va_S.rf
  have hP : va_P D vwCl [(h, .inr (13, [.ref pe, .ref ne, .ref pa, .ref ro, .int dy])), (pa, .inr (4, [.int mc, .ref el, .int 0]))] s.heap := hP
  have hl := lv_entry ([.ref h, .int p0]) (n := 4) (Nat.le_of_ble_eq_true rfl)
  rw [lg_entry_eq]
  generalize (lg_sl ([.ref h, .int p0]) ++ List.replicate (4 - (lg_sl ([.ref h, .int p0])).length) Slot.unset).toArray = ls at hl ⊢
  have hl : lv_has ls 4 [(0, .ref h), (1, .int p0)] := hl
  refine lv_iload_n hx hb dX8_goOn_0 rfl (lv_at hl 1 rfl) ?_
  refine lv_iconst (v := 1) hx hb dX8_goOn_1 (by decide) ?_
  refine lv_bipush (v := 99) hx hb dX8_goOn_2 (by decide) ?_
  have hPc := hP.sub (ws' := []) [] rfl
  have hDc := hD.sub (ws' := []) [] (by decide) rfl
  have hFc := va_free (wc := []) hD hS hA [] rfl
  refine va_calli (va_runS (As := [.int p0, .int 1, .int 99]) (rest := []) ⟨hx, hb, hml, hown, hts⟩ (c_X8_isWithin l hst D cy ed s.heap.size p0 1 99) (va_cwS 3 hts (zx_GS mm_338 mm_339 mm_71 mm_340) rfl rfl rfl (by decide +kernel) ⟨(Nat.le_of_ble_eq_true rfl), (Nat.le_of_ble_eq_true rfl)⟩) ⟨zx_blind, zx_give hPc hK hDc hS hFc hZ hN⟩ rfl rfl hl.1 rfl (lv_room (Nat.le_of_ble_eq_true rfl)) dX8_goOn_4 ⟨(Nat.le_of_ble_eq_true rfl), (Nat.le_of_ble_eq_true rfl)⟩) hS (fun q _ h => hFc q h) hFc (fun r9 u t H1 locs ht hvm hw hB hz1 hk1 hS => ?_)
  obtain rfl : r9 = (zx_in p0 1 99) := hw
  obtain ⟨hP, hD⟩ := zx_join (wr := [(h, .inr (13, [.ref pe, .ref ne, .ref pa, .ref ro, .int dy])), (pa, .inr (4, [.int mc, .ref el, .int 0]))]) (w1 := []) [] [0, 1] rfl rfl (by decide) (by decide) hP hD hk1 hFc hB ht
  generalize H1 = H at hP hS ⊢
  have hP : va_P D vwCl [(h, .inr (13, [.ref pe, .ref ne, .ref pa, .ref ro, .int dy])), (pa, .inr (4, [.int mc, .ref el, .int 0]))] H := hP
  have hD : va_D A [(h, .inr (13, [.ref pe, .ref ne, .ref pa, .ref ro, .int dy])), (pa, .inr (4, [.int mc, .ref el, .int 0]))] := hD
  refine W.widen (k := 0) (n := 0) (Nat.le_of_ble_eq_true rfl) (Nat.le_of_ble_eq_true rfl) ?_
  refine lv_if_ne (tgt := 18) hx hb dX8_goOn_7 (by decide) (fun c_200 => ?_) (fun c_200 => ?_)
  ·
    refine lv_aload_n hx hb dX8_goOn_18 rfl (lv_at hl 0 rfl) ?_
    refine lv_dup hx hb dX8_goOn_19 rfl ?_
    refine va_get (D := D) (ci := 13) (v := .int dy) (C := RX8) (T := TX8) (N := 5) hx hb hts (fun w h => zx_Gc (uz_X8 w h)) hown hK hP 0 rfl rfl 4 (by decide) (hts (.fieldLink RX8 34 "Refereehall" "day" "I") (zx_Gc mm_232)) (fun _ h9 => h9) rfl dX8_goOn_20 ?_
    refine lv_iload_n hx hb dX8_goOn_23 rfl (lv_at hl 1 rfl) ?_
    refine lv_iadd hx hb dX8_goOn_24 ?_
    refine va_put (D := D) (ci := 13) (v := .int (dy + p0)) (ty := .int) (C := RX8) (T := TX8) (N := 5) hx hb hts (fun w h => zx_Gc (uz_X8 w h)) tyX8 tyX8_ok nmX8 hown hK hP hD hS 0 rfl rfl 4 (by decide) (hts (.fieldLink RX8 34 "Refereehall" "day" "I") (zx_Gc mm_232)) (fun _ h9 => h9) rfl (by decide +kernel) rfl rfl (Nat.le_of_ble_eq_true rfl) dX8_goOn_25 (fun H locs hP hD hS => ?_)
    have hP : va_P D vwCl [(h, .inr (13, [.ref pe, .ref ne, .ref pa, .ref ro, .int (dy + p0)])), (pa, .inr (4, [.int mc, .ref el, .int 0]))] H := hP
    have hD : va_D A [(h, .inr (13, [.ref pe, .ref ne, .ref pa, .ref ro, .int (dy + p0)])), (pa, .inr (4, [.int mc, .ref el, .int 0]))] := hD
    refine lv_iconst (v := 0) hx hb dX8_goOn_28 (by decide) ?_
    refine lv_istore_n (lv' := [(2, .int 0), (0, .ref h), (1, .int p0)]) hx hb dX8_goOn_29 rfl hl (by decide) rfl (fun ls hl => ?_)
    refine lv_iconst (v := 0) hx hb dX8_goOn_30 (by decide) ?_
    refine lv_istore_n (lv' := [(3, .int 0), (2, .int 0), (0, .ref h), (1, .int p0)]) hx hb dX8_goOn_31 rfl hl (by decide) rfl (fun ls hl => ?_)
    refine lv_iload_n hx hb dX8_goOn_32 rfl (lv_at hl 0 rfl) ?_
    refine lv_aload_n hx hb dX8_goOn_33 rfl (lv_at hl 2 rfl) ?_
    refine va_get (D := D) (ci := 13) (v := .ref pa) (C := RX8) (T := TX8) (N := 5) hx hb hts (fun w h => zx_Gc (uz_X8 w h)) hown hK hP 0 rfl rfl 2 (by decide) (hts (.fieldLink RX8 26 "Refereehall" "papers" "Ljava/util/ArrayList;") (zx_Gc mm_230)) (fun _ h9 => h9) rfl dX8_goOn_34 ?_
    have hPc := hP.sub (ws' := [(pa, .inr (4, [.int mc, .ref el, .int 0]))]) [1] rfl
    have hDc := hD.sub (ws' := [(pa, .inr (4, [.int mc, .ref el, .int 0]))]) [1] (by decide) rfl
    have hFc := va_free (wc := [(pa, .inr (4, [.int mc, .ref el, .int 0]))]) hD hS hA [1] rfl
    refine va_calli (va_runV (As := []) (rest := [.int 0]) ⟨hx, hb, hml, hown, hts⟩ (c_AL_size l hst D cy ed H.size pa el mc 0) (cwV 0 hts (zx_GV mm_252 mm_253 mm_254 mm_77 mm_255) rfl rfl rfl (by decide +kernel) ⟨(Nat.le_of_ble_eq_true rfl), (Nat.le_of_ble_eq_true rfl)⟩) ⟨zx_blind, va_recv hK hPc (ci := 4) (q0 := 0) rfl rfl, zx_give hPc hK hDc hS hFc hZ hN⟩ rfl rfl hl.1 rfl (lv_room (Nat.le_of_ble_eq_true rfl)) dX8_goOn_37 ⟨(Nat.le_of_ble_eq_true rfl), (Nat.le_of_ble_eq_true rfl)⟩) hS (fun q _ h => hFc q h) hFc (fun r9 u t H1 locs ht hvm hw hB hz1 hk1 hS => ?_)
    obtain rfl : r9 = 0 := hw
    obtain ⟨hP, hD⟩ := zx_join (wr := [(h, .inr (13, [.ref pe, .ref ne, .ref pa, .ref ro, .int (dy + p0)]))]) (w1 := [(pa, .inr (4, [.int mc, .ref el, .int 0]))]) [1] [0] rfl rfl (by decide) (by decide) hP hD hk1 hFc hB ht
    generalize H1 = H at hP hS ⊢
    have hP : va_P D vwCl [(h, .inr (13, [.ref pe, .ref ne, .ref pa, .ref ro, .int (dy + p0)])), (pa, .inr (4, [.int mc, .ref el, .int 0]))] H := hP
    have hD : va_D A [(h, .inr (13, [.ref pe, .ref ne, .ref pa, .ref ro, .int (dy + p0)])), (pa, .inr (4, [.int mc, .ref el, .int 0]))] := hD
    refine W.widen (k := 0) (n := 0) (Nat.le_of_ble_eq_true rfl) (Nat.le_of_ble_eq_true rfl) ?_
    refine lv_icmp_ge (tgt := 70) hx hb dX8_goOn_40 (by decide) (fun _ => ?_) (fun c_201 => absurd (by decide) c_201)
    refine lv_iload_n hx hb dX8_goOn_70 rfl (lv_at hl 1 rfl) ?_
    have hP9 := hP.sub (ws' := []) [] rfl
    have hD9 := hD.sub (ws' := []) [] (by decide) rfl
    refine W.widen (k := 1) (n := 6) (Nat.le_of_ble_eq_true rfl) (Nat.le_of_ble_eq_true rfl) ?_
    refine vx_ret ?_
    exact W.iret (v := 0) hx hb hr (fun t ht hW => ⟨⟨0, (), rfl, ⟨rfl, (by simp [k_goOn, c_200])⟩, zx_fin hP9 hD9 hK ht hW⟩, hS.F ht⟩) hS.2.2 dX8_goOn_71
  ·
    have hat9 : ∀ w ∈ (vx_at0 RX8 45 "java/lang/IllegalArgumentException" ["java/lang/RuntimeException", "java/lang/Exception"]).filter goodWord, w ∈ wzX8_goOn := fun w h => zx_Gc (tw_RX8_45 w h)
    exact vx_throw0 (names := ["java/lang/RuntimeException", "java/lang/Exception"]) hx hb hst hown (by decide +kernel) (by decide +kernel) (hts (.classLink RX8 43 "java/lang/IllegalArgumentException") (zx_Gc mm_342)) (hts (.initialized "java/lang/IllegalArgumentException") (zx_Gc mm_82)) (vx_hat (B := (vx_at0 RX8 45 "java/lang/IllegalArgumentException" ["java/lang/RuntimeException", "java/lang/Exception"]).filter (fun w => !goodWord w)) (fun w9 h9 => hts w9 (hat9 w9 h9)) (fun _ h9 => h9) (zx_softs tv_RX8_45 hN)) (by decide +kernel) hZ.1 hZ.2.1 hS (hl.1.trans hml.symm) dX8_goOn_10 dX8_goOn_13 dX8_goOn_14 dX8_goOn_17 (fun x9 h9 => absurd h9 (htb x9)) (Nat.le_of_ble_eq_true rfl) (Nat.le_of_ble_eq_true rfl) (Nat.le_of_ble_eq_true rfl) (Nat.le_of_ble_eq_true rfl) hlocks (zx_thr (P := (fun E9 => (E9 = "java/lang/IllegalArgumentException" ∧ k_goOn p0 = 1))) hS (⟨rfl, (by simp [k_goOn, c_200])⟩)) hS.2.2 (Nat.le_of_ble_eq_true rfl) (Nat.le_of_ble_eq_true rfl)
set_option maxHeartbeats 4000000 in
set_option maxRecDepth 100000 in
theorem c_X8_publishedIn (l : Launch) (hst : l.stackTraces = false) (D : va_G) (cy : Nat → ClassId) (ed sz : Nat) (h : Nat) (pe : Nat) (ne : Nat) (pa : Nat) (ro : Nat) (dy : Int32) (mc : Int32) (el : Nat) (p0 : Int32) : Met l yX8_publishedIn wzX8_publishedIn ({ frames := 1, cells := 0, slots := 0, locals := 20 }) (zx_Pc D cy ed sz [.ref h, .int p0] [(h, .inr (13, [.ref pe, .ref ne, .ref pa, .ref ro, .int dy])), (pa, .inr (4, [.int mc, .ref el, .int 0]))]) (va_Qi (fun (r9 : Int32) (u9 : Unit) => r9 = 0) (fun (u9 : Unit) (t9 : State) => zx_At D cy (va_A [(h, .inr (13, [.ref pe, .ref ne, .ref pa, .ref ro, .int dy])), (pa, .inr (4, [.int mc, .ref el, .int 0]))] sz) [(h, .inr (13, [.ref pe, .ref ne, .ref pa, .ref ro, .int dy])), (pa, .inr (4, [.int mc, .ref el, .int 0]))] t9) (va_A [(h, .inr (13, [.ref pe, .ref ne, .ref pa, .ref ro, .int dy])), (pa, .inr (4, [.int mc, .ref el, .int 0]))] sz)) 0 0 (va_A [(h, .inr (13, [.ref pe, .ref ne, .ref pa, .ref ro, .int dy])), (pa, .inr (4, [.int mc, .ref el, .int 0]))] sz) := by
  refine Met.ofW (cc := cX8_publishedIn) (maxL := 5) (ret := (some .int)) (by decide) rfl ?_
  intro p e s m args below meth c s₁ B hml hv
  obtain ⟨rfl, hsz, hP, hK, hD0, hZ, hN⟩ := hv
  have hx := B.exec
  have hb := B.bytes
  have hr := B.returns
  have hts := atoms_spec (ws := wzX8_publishedIn) B.pre
  have hown : s.vm.findClass RX8 = some m.cls := findClass_of_methodNamed B.named
  have hlocks := B.notSynchronized
  subst hsz
  have hD := hD0.self (sz := s.heap.size)
  generalize hAe : va_A [(h, .inr (13, [.ref pe, .ref ne, .ref pa, .ref ro, .int dy])), (pa, .inr (4, [.int mc, .ref el, .int 0]))] s.heap.size = A at hD hZ ⊢
  have hA : ∀ q : Nat, s.heap.size ≤ q → A q := fun q h => by rw [← hAe]; exact Or.inr h
  have hS : va_S A s.heap s.heap [] := va_S.rf
  have hP : va_P D vwCl [(h, .inr (13, [.ref pe, .ref ne, .ref pa, .ref ro, .int dy])), (pa, .inr (4, [.int mc, .ref el, .int 0]))] s.heap := hP
  have hl := lv_entry ([.ref h, .int p0]) (n := 5) (Nat.le_of_ble_eq_true rfl)
  rw [lg_entry_eq]
  generalize (lg_sl ([.ref h, .int p0]) ++ List.replicate (5 - (lg_sl ([.ref h, .int p0])).length) Slot.unset).toArray = ls at hl ⊢
  have hl : lv_has ls 5 [(0, .ref h), (1, .int p0)] := hl
  refine lv_iconst (v := 0) hx hb dX8_publishedIn_0 (by decide) ?_
  refine lv_istore_n (lv' := [(2, .int 0), (0, .ref h), (1, .int p0)]) hx hb dX8_publishedIn_1 rfl hl (by decide) rfl (fun ls hl => ?_)
  refine lv_iconst (v := 0) hx hb dX8_publishedIn_2 (by decide) ?_
  refine lv_istore_n (lv' := [(3, .int 0), (2, .int 0), (0, .ref h), (1, .int p0)]) hx hb dX8_publishedIn_3 rfl hl (by decide) rfl (fun ls hl => ?_)
  refine lv_iload_n hx hb dX8_publishedIn_4 rfl (lv_at hl 0 rfl) ?_
  refine lv_aload_n hx hb dX8_publishedIn_5 rfl (lv_at hl 2 rfl) ?_
  refine va_get (D := D) (ci := 13) (v := .ref pa) (C := RX8) (T := TX8) (N := 5) hx hb hts (fun w h => zx_Gc (uz_X8 w h)) hown hK hP 0 rfl rfl 2 (by decide) (hts (.fieldLink RX8 26 "Refereehall" "papers" "Ljava/util/ArrayList;") (zx_Gc mm_230)) (fun _ h9 => h9) rfl dX8_publishedIn_6 ?_
  have hPc := hP.sub (ws' := [(pa, .inr (4, [.int mc, .ref el, .int 0]))]) [1] rfl
  have hDc := hD.sub (ws' := [(pa, .inr (4, [.int mc, .ref el, .int 0]))]) [1] (by decide) rfl
  have hFc := va_free (wc := [(pa, .inr (4, [.int mc, .ref el, .int 0]))]) hD hS hA [1] rfl
  refine va_calli (va_runV (As := []) (rest := [.int 0]) ⟨hx, hb, hml, hown, hts⟩ (c_AL_size l hst D cy ed s.heap.size pa el mc 0) (cwV 0 hts (zx_GV mm_252 mm_253 mm_254 mm_77 mm_255) rfl rfl rfl (by decide +kernel) ⟨(Nat.le_of_ble_eq_true rfl), (Nat.le_of_ble_eq_true rfl)⟩) ⟨zx_blind, va_recv hK hPc (ci := 4) (q0 := 0) rfl rfl, zx_give hPc hK hDc hS hFc hZ hN⟩ rfl rfl hl.1 rfl (lv_room (Nat.le_of_ble_eq_true rfl)) dX8_publishedIn_9 ⟨(Nat.le_of_ble_eq_true rfl), (Nat.le_of_ble_eq_true rfl)⟩) hS (fun q _ h => hFc q h) hFc (fun r9 u t H1 locs ht hvm hw hB hz1 hk1 hS => ?_)
  obtain rfl : r9 = 0 := hw
  obtain ⟨hP, hD⟩ := zx_join (wr := [(h, .inr (13, [.ref pe, .ref ne, .ref pa, .ref ro, .int dy]))]) (w1 := [(pa, .inr (4, [.int mc, .ref el, .int 0]))]) [1] [0] rfl rfl (by decide) (by decide) hP hD hk1 hFc hB ht
  generalize H1 = H at hP hS ⊢
  have hP : va_P D vwCl [(h, .inr (13, [.ref pe, .ref ne, .ref pa, .ref ro, .int dy])), (pa, .inr (4, [.int mc, .ref el, .int 0]))] H := hP
  have hD : va_D A [(h, .inr (13, [.ref pe, .ref ne, .ref pa, .ref ro, .int dy])), (pa, .inr (4, [.int mc, .ref el, .int 0]))] := hD
  refine W.widen (k := 0) (n := 0) (Nat.le_of_ble_eq_true rfl) (Nat.le_of_ble_eq_true rfl) ?_
  refine lv_icmp_ge (tgt := 59) hx hb dX8_publishedIn_12 (by decide) (fun _ => ?_) (fun c_202 => absurd (by decide) c_202)
  refine lv_iload_n hx hb dX8_publishedIn_59 rfl (lv_at hl 1 rfl) ?_
  have hP9 := hP.sub (ws' := [(h, .inr (13, [.ref pe, .ref ne, .ref pa, .ref ro, .int dy])), (pa, .inr (4, [.int mc, .ref el, .int 0]))]) [0, 1] rfl
  have hD9 := hD.sub (ws' := [(h, .inr (13, [.ref pe, .ref ne, .ref pa, .ref ro, .int dy])), (pa, .inr (4, [.int mc, .ref el, .int 0]))]) [0, 1] (by decide) rfl
  exact W.iret (v := 0) hx hb hr (fun t ht hW => ⟨⟨0, (), rfl, rfl, zx_fin hP9 hD9 hK ht hW⟩, hS.F ht⟩) hS.2.2 dX8_publishedIn_60
set_option maxHeartbeats 4000000 in
set_option maxRecDepth 100000 in
theorem c_bitCount0 (l : Launch) (hst : l.stackTraces = false) (D : va_G) (cy : Nat → ClassId) (ed sz : Nat) : Met l yJ6_bitCount_0f7a4 wzJ6_bitCount_0f7a4 ({ frames := 0, cells := 0, slots := 0, locals := 0 }) (zx_Pc D cy ed sz [.int 0] []) (va_Qi (fun (r9 : Int32) (u9 : Unit) => r9 = 0) (fun (u9 : Unit) (t9 : State) => zx_At D cy (va_A [] sz) [] t9) (va_A [] sz)) 0 0 (va_A [] sz) := by
  refine Met.ofW (cc := cJ6_bitCount_0f7a4) (maxL := 1) (ret := (some .int)) (by decide) rfl ?_
  intro p e s m args below meth c s₁ B hml hv
  obtain ⟨rfl, hsz, hP, hK, hD0, hZ, hN⟩ := hv
  have hx := B.exec
  have hb := B.bytes
  have hr := B.returns
  have hts := atoms_spec (ws := wzJ6_bitCount_0f7a4) B.pre
  have hown : s.vm.findClass RJ6 = some m.cls := findClass_of_methodNamed B.named
  have hlocks := B.notSynchronized
  subst hsz
  have hD := hD0.self (sz := s.heap.size)
  generalize hAe : va_A [] s.heap.size = A at hD hZ ⊢
  have hA : ∀ q : Nat, s.heap.size ≤ q → A q := fun q h => by rw [← hAe]; exact Or.inr h
  have hS : va_S A s.heap s.heap [] := va_S.rf
  have hP : va_P D vwCl [] s.heap := hP
  have hl := lv_entry ([.int 0]) (n := 1) (Nat.le_of_ble_eq_true rfl)
  rw [lg_entry_eq]
  generalize (lg_sl ([.int 0]) ++ List.replicate (1 - (lg_sl ([.int 0])).length) Slot.unset).toArray = ls at hl ⊢
  have hl : lv_has ls 1 [(0, .int 0)] := hl
  refine lv_iload_n hx hb dJ6_bitCount_0f7a4_0 rfl (lv_at hl 0 rfl) ?_
  refine lv_iload_n hx hb dJ6_bitCount_0f7a4_1 rfl (lv_at hl 0 rfl) ?_
  refine lv_iconst (v := 1) hx hb dJ6_bitCount_0f7a4_2 (by decide) ?_
  refine lv_iushr (v := 0) hx hb dJ6_bitCount_0f7a4_3 (by decide) ?_
  refine lv_ldcw (v := 1431655765) hx hb hown (hts (.constant RJ6 265 (1431655765)) (zx_Gc mm_535)) dJ6_bitCount_0f7a4_4 ?_
  refine lv_iand hx hb dJ6_bitCount_0f7a4_7 ?_
  refine lv_topi (fun y9 ey9 => ?_)
  obtain rfl : y9 = 0 := by rw [ey9] <;> decide
  refine lv_isub hx hb dJ6_bitCount_0f7a4_8 ?_
  refine lv_topi (fun y9 ey9 => ?_)
  obtain rfl : y9 = 0 := by rw [ey9] <;> decide
  refine lv_istore_n (lv' := [(0, .int 0)]) hx hb dJ6_bitCount_0f7a4_9 rfl hl (by decide) rfl (fun ls hl => ?_)
  refine lv_iload_n hx hb dJ6_bitCount_0f7a4_10 rfl (lv_at hl 0 rfl) ?_
  refine lv_ldcw (v := 858993459) hx hb hown (hts (.constant RJ6 266 (858993459)) (zx_Gc mm_536)) dJ6_bitCount_0f7a4_11 ?_
  refine lv_iand hx hb dJ6_bitCount_0f7a4_14 ?_
  refine lv_topi (fun y9 ey9 => ?_)
  obtain rfl : y9 = 0 := by rw [ey9] <;> decide
  refine lv_iload_n hx hb dJ6_bitCount_0f7a4_15 rfl (lv_at hl 0 rfl) ?_
  refine lv_iconst (v := 2) hx hb dJ6_bitCount_0f7a4_16 (by decide) ?_
  refine lv_iushr (v := 0) hx hb dJ6_bitCount_0f7a4_17 (by decide) ?_
  refine lv_ldcw (v := 858993459) hx hb hown (hts (.constant RJ6 266 (858993459)) (zx_Gc mm_536)) dJ6_bitCount_0f7a4_18 ?_
  refine lv_iand hx hb dJ6_bitCount_0f7a4_21 ?_
  refine lv_topi (fun y9 ey9 => ?_)
  obtain rfl : y9 = 0 := by rw [ey9] <;> decide
  refine lv_iadd hx hb dJ6_bitCount_0f7a4_22 ?_
  refine lv_topi (fun y9 ey9 => ?_)
  obtain rfl : y9 = 0 := by rw [ey9] <;> decide
  refine lv_istore_n (lv' := [(0, .int 0)]) hx hb dJ6_bitCount_0f7a4_23 rfl hl (by decide) rfl (fun ls hl => ?_)
  refine lv_iload_n hx hb dJ6_bitCount_0f7a4_24 rfl (lv_at hl 0 rfl) ?_
  refine lv_iload_n hx hb dJ6_bitCount_0f7a4_25 rfl (lv_at hl 0 rfl) ?_
  refine lv_iconst (v := 4) hx hb dJ6_bitCount_0f7a4_26 (by decide) ?_
  refine lv_iushr (v := 0) hx hb dJ6_bitCount_0f7a4_27 (by decide) ?_
  refine lv_iadd hx hb dJ6_bitCount_0f7a4_28 ?_
  refine lv_topi (fun y9 ey9 => ?_)
  obtain rfl : y9 = 0 := by rw [ey9] <;> decide
  refine lv_ldcw (v := 252645135) hx hb hown (hts (.constant RJ6 267 (252645135)) (zx_Gc mm_537)) dJ6_bitCount_0f7a4_29 ?_
  refine lv_iand hx hb dJ6_bitCount_0f7a4_32 ?_
  refine lv_topi (fun y9 ey9 => ?_)
  obtain rfl : y9 = 0 := by rw [ey9] <;> decide
  refine lv_istore_n (lv' := [(0, .int 0)]) hx hb dJ6_bitCount_0f7a4_33 rfl hl (by decide) rfl (fun ls hl => ?_)
  refine lv_iload_n hx hb dJ6_bitCount_0f7a4_34 rfl (lv_at hl 0 rfl) ?_
  refine lv_iload_n hx hb dJ6_bitCount_0f7a4_35 rfl (lv_at hl 0 rfl) ?_
  refine lv_bipush (v := 8) hx hb dJ6_bitCount_0f7a4_36 (by decide) ?_
  refine lv_iushr (v := 0) hx hb dJ6_bitCount_0f7a4_38 (by decide) ?_
  refine lv_iadd hx hb dJ6_bitCount_0f7a4_39 ?_
  refine lv_topi (fun y9 ey9 => ?_)
  obtain rfl : y9 = 0 := by rw [ey9] <;> decide
  refine lv_istore_n (lv' := [(0, .int 0)]) hx hb dJ6_bitCount_0f7a4_40 rfl hl (by decide) rfl (fun ls hl => ?_)
  refine lv_iload_n hx hb dJ6_bitCount_0f7a4_41 rfl (lv_at hl 0 rfl) ?_
  refine lv_iload_n hx hb dJ6_bitCount_0f7a4_42 rfl (lv_at hl 0 rfl) ?_
  refine lv_bipush (v := 16) hx hb dJ6_bitCount_0f7a4_43 (by decide) ?_
  refine lv_iushr (v := 0) hx hb dJ6_bitCount_0f7a4_45 (by decide) ?_
  refine lv_iadd hx hb dJ6_bitCount_0f7a4_46 ?_
  refine lv_topi (fun y9 ey9 => ?_)
  obtain rfl : y9 = 0 := by rw [ey9] <;> decide
  refine lv_istore_n (lv' := [(0, .int 0)]) hx hb dJ6_bitCount_0f7a4_47 rfl hl (by decide) rfl (fun ls hl => ?_)
  refine lv_iload_n hx hb dJ6_bitCount_0f7a4_48 rfl (lv_at hl 0 rfl) ?_
  refine lv_bipush (v := 63) hx hb dJ6_bitCount_0f7a4_49 (by decide) ?_
  refine lv_iand hx hb dJ6_bitCount_0f7a4_51 ?_
  refine lv_topi (fun y9 ey9 => ?_)
  obtain rfl : y9 = 0 := by rw [ey9] <;> decide
  have hP9 := hP.sub (ws' := []) [] rfl
  have hD9 := hD.sub (ws' := []) [] (by decide) rfl
  exact W.iret (v := 0) hx hb hr (fun t ht hW => ⟨⟨0, (), rfl, rfl, zx_fin hP9 hD9 hK ht hW⟩, hS.F ht⟩) hS.2.2 dJ6_bitCount_0f7a4_52
set_option maxHeartbeats 4000000 in
set_option maxRecDepth 100000 in
theorem c_X8_fieldIndex (l : Launch) (hst : l.stackTraces = false) (D : va_G) (cy : Nat → ClassId) (ed sz : Nat) (h : Nat) (pe : Nat) (ne : Nat) (pa : Nat) (ro : Nat) (dy : Int32) (mc : Int32) (el : Nat) (p0 : Int32) (p1 : Int32) : vx_Met l yX8_fieldIndex wzX8_fieldIndex ({ frames := 7, cells := 4, slots := 24, locals := 101 }) (zx_Pc D cy ed sz [.ref h, .int p0, .int p1] [(h, .inr (13, [.ref pe, .ref ne, .ref pa, .ref ro, .int dy])), (pa, .inr (4, [.int mc, .ref el, .int 0]))]) (va_Qf (fun (_ : UInt32) (_ : Unit) => False) (fun (u9 : Unit) (t9 : State) => zx_At D cy (va_A [(h, .inr (13, [.ref pe, .ref ne, .ref pa, .ref ro, .int dy])), (pa, .inr (4, [.int mc, .ref el, .int 0]))] sz) [] t9) (va_A [(h, .inr (13, [.ref pe, .ref ne, .ref pa, .ref ro, .int dy])), (pa, .inr (4, [.int mc, .ref el, .int 0]))] sz)) (zx_X (fun E9 => (E9 = "java/lang/IllegalArgumentException" ∧ k_fieldIndex p0 p1 = 1) ∨ (E9 = "java/lang/ArithmeticException" ∧ k_fieldIndex p0 p1 = 2)) (va_A [(h, .inr (13, [.ref pe, .ref ne, .ref pa, .ref ro, .int dy])), (pa, .inr (4, [.int mc, .ref el, .int 0]))] sz)) 4 24 (va_A [(h, .inr (13, [.ref pe, .ref ne, .ref pa, .ref ro, .int dy])), (pa, .inr (4, [.int mc, .ref el, .int 0]))] sz) := by
  refine vx_ofW (cc := cX8_fieldIndex) (maxL := 8) (ret := (some .float)) (by decide) rfl ?_
  intro p e s m args below meth c s₁ B hml htb hv
  obtain ⟨rfl, hsz, hP, hK, hD0, hZ, hN⟩ := hv
  have hx := B.exec
  have hb := B.bytes
  have hr := B.returns
  have hts := atoms_spec (ws := wzX8_fieldIndex) B.pre
  have hown : s.vm.findClass RX8 = some m.cls := findClass_of_methodNamed B.named
  have hlocks := B.notSynchronized
  subst hsz
  have hD := hD0.self (sz := s.heap.size)
  generalize hAe : va_A [(h, .inr (13, [.ref pe, .ref ne, .ref pa, .ref ro, .int dy])), (pa, .inr (4, [.int mc, .ref el, .int 0]))] s.heap.size = A at hD hZ ⊢
  have hA : ∀ q : Nat, s.heap.size ≤ q → A q := fun q h => by rw [← hAe]; exact Or.inr h
  have hS : va_S A s.heap s.heap [] := va_S.rf
  have hP : va_P D vwCl [(h, .inr (13, [.ref pe, .ref ne, .ref pa, .ref ro, .int dy])), (pa, .inr (4, [.int mc, .ref el, .int 0]))] s.heap := hP
  have hl := lv_entry ([.ref h, .int p0, .int p1]) (n := 8) (Nat.le_of_ble_eq_true rfl)
  rw [lg_entry_eq]
  generalize (lg_sl ([.ref h, .int p0, .int p1]) ++ List.replicate (8 - (lg_sl ([.ref h, .int p0, .int p1])).length) Slot.unset).toArray = ls at hl ⊢
  have hl : lv_has ls 8 [(0, .ref h), (1, .int p0), (2, .int p1)] := hl
  refine lv_iload_n hx hb dX8_fieldIndex_0 rfl (lv_at hl 1 rfl) ?_
  have hPc := hP.sub (ws' := []) [] rfl
  have hDc := hD.sub (ws' := []) [] (by decide) rfl
  have hFc := va_free (wc := []) hD hS hA [] rfl
  refine vx_callv (vx_runS (As := [.int p0]) (rest := []) ⟨hx, hb, hml, hown, hts⟩ (c_X8_needField l hst D cy ed s.heap.size p0) (va_cwS 1 hts (zx_GS mm_529 mm_530 mm_71 mm_531) rfl rfl rfl (by decide +kernel) ⟨(Nat.le_of_ble_eq_true rfl), (Nat.le_of_ble_eq_true rfl)⟩) ⟨zx_blind, zx_give hPc hK hDc hS hFc hZ hN⟩ rfl rfl hl.1 rfl (lv_room (Nat.le_of_ble_eq_true rfl)) dX8_fieldIndex_1 ⟨(Nat.le_of_ble_eq_true rfl), (Nat.le_of_ble_eq_true rfl)⟩) hS (fun q _ h => hFc q h) hFc (fun q _ h => hFc q h) (fun E9 ce9 q9 _ t H locs ht hvm _ hBX hz1 hk1 hS hce hcv hcl => ?_) (fun u t H locs ht hvm hw hB hz1 hk1 hS => ?_)
  · exact vx_out (fun x9 h9 => absurd h9 (htb x9)) hlocks hce hcv hcl (zx_pass (P := (fun E9 => (E9 = "java/lang/IllegalArgumentException" ∧ k_fieldIndex p0 p1 = 1) ∨ (E9 = "java/lang/ArithmeticException" ∧ k_fieldIndex p0 p1 = 2))) hS ((Or.inl ⟨hBX.1, by have h9 := hBX.2; simp [k_fieldIndex, h9]⟩))) hS.2.2 (Nat.le_of_ble_eq_true rfl) (Nat.le_of_ble_eq_true rfl)
  ·
    have h_203 := hw
    obtain ⟨hP, hD⟩ := zx_join (wr := [(h, .inr (13, [.ref pe, .ref ne, .ref pa, .ref ro, .int dy])), (pa, .inr (4, [.int mc, .ref el, .int 0]))]) (w1 := []) [] [0, 1] rfl rfl (by decide) (by decide) hP hD hk1 hFc hB ht
    have hP : va_P D vwCl [(h, .inr (13, [.ref pe, .ref ne, .ref pa, .ref ro, .int dy])), (pa, .inr (4, [.int mc, .ref el, .int 0]))] H := hP
    have hD : va_D A [(h, .inr (13, [.ref pe, .ref ne, .ref pa, .ref ro, .int dy])), (pa, .inr (4, [.int mc, .ref el, .int 0]))] := hD
    refine W.widen (k := 1) (n := 6) (Nat.le_of_ble_eq_true rfl) (Nat.le_of_ble_eq_true rfl) ?_
    refine lv_iload_n hx hb dX8_fieldIndex_4 rfl (lv_at hl 2 rfl) ?_
    refine lv_iconst (v := 1) hx hb dX8_fieldIndex_5 (by decide) ?_
    refine lv_sipush (v := 9999) hx hb dX8_fieldIndex_6 (by decide) ?_
    have hPc := hP.sub (ws' := []) [] rfl
    have hDc := hD.sub (ws' := []) [] (by decide) rfl
    have hFc := va_free (wc := []) hD hS hA [] rfl
    refine va_calli (va_runS (As := [.int p1, .int 1, .int 9999]) (rest := []) ⟨hx, hb, hml, hown, hts⟩ (c_X8_isWithin l hst D cy ed H.size p1 1 9999) (va_cwS 3 hts (zx_GS mm_338 mm_339 mm_71 mm_340) rfl rfl rfl (by decide +kernel) ⟨(Nat.le_of_ble_eq_true rfl), (Nat.le_of_ble_eq_true rfl)⟩) ⟨zx_blind, zx_give hPc hK hDc hS hFc hZ hN⟩ rfl rfl hl.1 rfl (lv_room (Nat.le_of_ble_eq_true rfl)) dX8_fieldIndex_9 ⟨(Nat.le_of_ble_eq_true rfl), (Nat.le_of_ble_eq_true rfl)⟩) hS (fun q _ h => hFc q h) hFc (fun r9 u t H1 locs ht hvm hw hB hz1 hk1 hS => ?_)
    obtain rfl : r9 = (zx_in p1 1 9999) := hw
    obtain ⟨hP, hD⟩ := zx_join (wr := [(h, .inr (13, [.ref pe, .ref ne, .ref pa, .ref ro, .int dy])), (pa, .inr (4, [.int mc, .ref el, .int 0]))]) (w1 := []) [] [0, 1] rfl rfl (by decide) (by decide) hP hD hk1 hFc hB ht
    generalize H1 = H at hP hS ⊢
    have hP : va_P D vwCl [(h, .inr (13, [.ref pe, .ref ne, .ref pa, .ref ro, .int dy])), (pa, .inr (4, [.int mc, .ref el, .int 0]))] H := hP
    have hD : va_D A [(h, .inr (13, [.ref pe, .ref ne, .ref pa, .ref ro, .int dy])), (pa, .inr (4, [.int mc, .ref el, .int 0]))] := hD
    refine W.widen (k := 1) (n := 6) (Nat.le_of_ble_eq_true rfl) (Nat.le_of_ble_eq_true rfl) ?_
    refine lv_if_ne (tgt := 23) hx hb dX8_fieldIndex_12 (by decide) (fun c_204 => ?_) (fun c_204 => ?_)
    ·
      refine lv_aload_n hx hb dX8_fieldIndex_23 rfl (lv_at hl 0 rfl) ?_
      refine lv_iload_n hx hb dX8_fieldIndex_24 rfl (lv_at hl 1 rfl) ?_
      have hPc := hP.sub (ws' := [(h, .inr (13, [.ref pe, .ref ne, .ref pa, .ref ro, .int dy])), (pa, .inr (4, [.int mc, .ref el, .int 0]))]) [0, 1] rfl
      have hDc := hD.sub (ws' := [(h, .inr (13, [.ref pe, .ref ne, .ref pa, .ref ro, .int dy])), (pa, .inr (4, [.int mc, .ref el, .int 0]))]) [0, 1] (by decide) rfl
      have hFc := va_free (wc := [(h, .inr (13, [.ref pe, .ref ne, .ref pa, .ref ro, .int dy])), (pa, .inr (4, [.int mc, .ref el, .int 0]))]) hD hS hA [0, 1] rfl
      refine va_calli (va_runV (As := [.int p0]) (rest := []) ⟨hx, hb, hml, hown, hts⟩ (c_X8_publishedIn l hst D cy ed H.size h pe ne pa ro dy mc el p0) (cwV 1 hts (zx_GV mm_1485 mm_1487 mm_38 mm_71 mm_1488) rfl rfl rfl (by decide +kernel) ⟨(Nat.le_of_ble_eq_true rfl), (Nat.le_of_ble_eq_true rfl)⟩) ⟨zx_blind, va_recv hK hPc (ci := 13) (q0 := 0) rfl rfl, zx_give hPc hK hDc hS hFc hZ hN⟩ rfl rfl hl.1 rfl (lv_room (Nat.le_of_ble_eq_true rfl)) dX8_fieldIndex_25 ⟨(Nat.le_of_ble_eq_true rfl), (Nat.le_of_ble_eq_true rfl)⟩) hS (fun q _ h => hFc q h) hFc (fun r9 u t H1 locs ht hvm hw hB hz1 hk1 hS => ?_)
      obtain rfl : r9 = 0 := hw
      obtain ⟨hP, hD⟩ := zx_join (wr := []) (w1 := [(h, .inr (13, [.ref pe, .ref ne, .ref pa, .ref ro, .int dy])), (pa, .inr (4, [.int mc, .ref el, .int 0]))]) [0, 1] [] rfl rfl (by decide) (by decide) hP hD hk1 hFc hB ht
      generalize H1 = H at hP hS ⊢
      have hP : va_P D vwCl [(h, .inr (13, [.ref pe, .ref ne, .ref pa, .ref ro, .int dy])), (pa, .inr (4, [.int mc, .ref el, .int 0]))] H := hP
      have hD : va_D A [(h, .inr (13, [.ref pe, .ref ne, .ref pa, .ref ro, .int dy])), (pa, .inr (4, [.int mc, .ref el, .int 0]))] := hD
      refine W.widen (k := 1) (n := 6) (Nat.le_of_ble_eq_true rfl) (Nat.le_of_ble_eq_true rfl) ?_
      refine lv_istore_n (lv' := [(3, .int 0), (0, .ref h), (1, .int p0), (2, .int p1)]) hx hb dX8_fieldIndex_28 rfl hl (by decide) rfl (fun ls hl => ?_)
      refine lv_iload_n hx hb dX8_fieldIndex_29 rfl (lv_at hl 0 rfl) ?_
      have hPc := hP.sub (ws' := []) [] rfl
      have hDc := hD.sub (ws' := []) [] (by decide) rfl
      have hFc := va_free (wc := []) hD hS hA [] rfl
      refine va_calli (va_runS (As := [.int 0]) (rest := []) ⟨hx, hb, hml, hown, hts⟩ (c_bitCount0 l hst D cy ed H.size ) (va_cwS 1 hts (zx_GS mm_532 mm_533 mm_95 mm_534) rfl rfl rfl (by decide +kernel) ⟨(Nat.le_of_ble_eq_true rfl), (Nat.le_of_ble_eq_true rfl)⟩) ⟨zx_blind, zx_give hPc hK hDc hS hFc hZ hN⟩ rfl rfl hl.1 rfl (lv_room (Nat.le_of_ble_eq_true rfl)) dX8_fieldIndex_30 ⟨(Nat.le_of_ble_eq_true rfl), (Nat.le_of_ble_eq_true rfl)⟩) hS (fun q _ h => hFc q h) hFc (fun r9 u t H1 locs ht hvm hw hB hz1 hk1 hS => ?_)
      obtain rfl : r9 = 0 := hw
      obtain ⟨hP, hD⟩ := zx_join (wr := [(h, .inr (13, [.ref pe, .ref ne, .ref pa, .ref ro, .int dy])), (pa, .inr (4, [.int mc, .ref el, .int 0]))]) (w1 := []) [] [0, 1] rfl rfl (by decide) (by decide) hP hD hk1 hFc hB ht
      generalize H1 = H at hP hS ⊢
      have hP : va_P D vwCl [(h, .inr (13, [.ref pe, .ref ne, .ref pa, .ref ro, .int dy])), (pa, .inr (4, [.int mc, .ref el, .int 0]))] H := hP
      have hD : va_D A [(h, .inr (13, [.ref pe, .ref ne, .ref pa, .ref ro, .int dy])), (pa, .inr (4, [.int mc, .ref el, .int 0]))] := hD
      refine W.widen (k := 1) (n := 6) (Nat.le_of_ble_eq_true rfl) (Nat.le_of_ble_eq_true rfl) ?_
      refine lv_istore (lv' := [(4, .int 0), (3, .int 0), (0, .ref h), (1, .int p0), (2, .int p1)]) hx hb dX8_fieldIndex_33 hl (by decide) rfl (fun ls hl => ?_)
      refine lv_iload hx hb dX8_fieldIndex_35 (lv_at hl 0 rfl) ?_
      refine lv_if_ne (tgt := 48) hx hb dX8_fieldIndex_37 (by decide) (fun c_205 => absurd c_205 (by decide)) (fun _ => ?_)
      have hat9 : ∀ w ∈ (vx_at0 RX8 399 "java/lang/ArithmeticException" ["java/lang/RuntimeException", "java/lang/Exception"]).filter goodWord, w ∈ wzX8_fieldIndex := fun w h => zx_Gc (tw_RX8_399 w h)
      exact vx_throw0 (names := ["java/lang/RuntimeException", "java/lang/Exception"]) hx hb hst hown (by decide +kernel) (by decide +kernel) (hts (.classLink RX8 397 "java/lang/ArithmeticException") (zx_Gc mm_1489)) (hts (.initialized "java/lang/ArithmeticException") (zx_Gc mm_112)) (vx_hat (B := (vx_at0 RX8 399 "java/lang/ArithmeticException" ["java/lang/RuntimeException", "java/lang/Exception"]).filter (fun w => !goodWord w)) (fun w9 h9 => hts w9 (hat9 w9 h9)) (fun _ h9 => h9) (zx_softs tv_RX8_399 hN)) (by decide +kernel) hZ.1 hZ.2.1 hS (hl.1.trans hml.symm) dX8_fieldIndex_40 dX8_fieldIndex_43 dX8_fieldIndex_44 dX8_fieldIndex_47 (fun x9 h9 => absurd h9 (htb x9)) (Nat.le_of_ble_eq_true rfl) (Nat.le_of_ble_eq_true rfl) (Nat.le_of_ble_eq_true rfl) (Nat.le_of_ble_eq_true rfl) hlocks (zx_thr (P := (fun E9 => (E9 = "java/lang/IllegalArgumentException" ∧ k_fieldIndex p0 p1 = 1) ∨ (E9 = "java/lang/ArithmeticException" ∧ k_fieldIndex p0 p1 = 2))) hS (Or.inr ⟨rfl, (by simp [k_fieldIndex, h_203, c_204])⟩)) hS.2.2 (Nat.le_of_ble_eq_true rfl) (Nat.le_of_ble_eq_true rfl)
    ·
      have hat9 : ∀ w ∈ (vx_at0 RX8 45 "java/lang/IllegalArgumentException" ["java/lang/RuntimeException", "java/lang/Exception"]).filter goodWord, w ∈ wzX8_fieldIndex := fun w h => zx_Gc (tw_RX8_45 w h)
      exact vx_throw0 (names := ["java/lang/RuntimeException", "java/lang/Exception"]) hx hb hst hown (by decide +kernel) (by decide +kernel) (hts (.classLink RX8 43 "java/lang/IllegalArgumentException") (zx_Gc mm_342)) (hts (.initialized "java/lang/IllegalArgumentException") (zx_Gc mm_82)) (vx_hat (B := (vx_at0 RX8 45 "java/lang/IllegalArgumentException" ["java/lang/RuntimeException", "java/lang/Exception"]).filter (fun w => !goodWord w)) (fun w9 h9 => hts w9 (hat9 w9 h9)) (fun _ h9 => h9) (zx_softs tv_RX8_45 hN)) (by decide +kernel) hZ.1 hZ.2.1 hS (hl.1.trans hml.symm) dX8_fieldIndex_15 dX8_fieldIndex_18 dX8_fieldIndex_19 dX8_fieldIndex_22 (fun x9 h9 => absurd h9 (htb x9)) (Nat.le_of_ble_eq_true rfl) (Nat.le_of_ble_eq_true rfl) (Nat.le_of_ble_eq_true rfl) (Nat.le_of_ble_eq_true rfl) hlocks (zx_thr (P := (fun E9 => (E9 = "java/lang/IllegalArgumentException" ∧ k_fieldIndex p0 p1 = 1) ∨ (E9 = "java/lang/ArithmeticException" ∧ k_fieldIndex p0 p1 = 2))) hS (Or.inl ⟨rfl, (by simp [k_fieldIndex, h_203, c_204])⟩)) hS.2.2 (Nat.le_of_ble_eq_true rfl) (Nat.le_of_ble_eq_true rfl)
set_option maxHeartbeats 4000000 in
set_option maxRecDepth 100000 in
theorem c_X8_rings (l : Launch) (hst : l.stackTraces = false) (D : va_G) (cy : Nat → ClassId) (ed sz : Nat) (h : Nat) (pe : Nat) (ne : Nat) (pa : Nat) (ro : Nat) (dy : Int32) (a1 : Nat) (a2 : Nat) (a3 : Nat) (a4 : Nat) (a5 : Nat) (a6 : Nat) (a7 : Nat) (a8 : Nat) (a9 : Nat) : Met l yX8_rings wzX8_rings ({ frames := 0, cells := 0, slots := 0, locals := 0 }) (zx_Pc D cy ed sz [.ref h] [(h, .inr (13, [.ref pe, .ref ne, .ref pa, .ref ro, .int dy])), (pe, .inr (9, [.int 0, .ref a1, .ref a2, .ref a3, .ref a4, .ref a5, .ref a6, .ref a7, .ref a8, .ref a9]))]) (va_Qi (fun (r9 : Int32) (u9 : Unit) => r9 = 0) (fun (u9 : Unit) (t9 : State) => zx_At D cy (va_A [(h, .inr (13, [.ref pe, .ref ne, .ref pa, .ref ro, .int dy])), (pe, .inr (9, [.int 0, .ref a1, .ref a2, .ref a3, .ref a4, .ref a5, .ref a6, .ref a7, .ref a8, .ref a9]))] sz) [] t9) (va_A [(h, .inr (13, [.ref pe, .ref ne, .ref pa, .ref ro, .int dy])), (pe, .inr (9, [.int 0, .ref a1, .ref a2, .ref a3, .ref a4, .ref a5, .ref a6, .ref a7, .ref a8, .ref a9]))] sz)) 0 0 (va_A [(h, .inr (13, [.ref pe, .ref ne, .ref pa, .ref ro, .int dy])), (pe, .inr (9, [.int 0, .ref a1, .ref a2, .ref a3, .ref a4, .ref a5, .ref a6, .ref a7, .ref a8, .ref a9]))] sz) := by
  refine Met.ofW (cc := cX8_rings) (maxL := 4) (ret := (some .int)) (by decide) rfl ?_
  intro p e s m args below meth c s₁ B hml hv
  obtain ⟨rfl, hsz, hP, hK, hD0, hZ, hN⟩ := hv
  have hx := B.exec
  have hb := B.bytes
  have hr := B.returns
  have hts := atoms_spec (ws := wzX8_rings) B.pre
  have hown : s.vm.findClass RX8 = some m.cls := findClass_of_methodNamed B.named
  have hlocks := B.notSynchronized
  subst hsz
  have hD := hD0.self (sz := s.heap.size)
  generalize hAe : va_A [(h, .inr (13, [.ref pe, .ref ne, .ref pa, .ref ro, .int dy])), (pe, .inr (9, [.int 0, .ref a1, .ref a2, .ref a3, .ref a4, .ref a5, .ref a6, .ref a7, .ref a8, .ref a9]))] s.heap.size = A at hD hZ ⊢
  have hA : ∀ q : Nat, s.heap.size ≤ q → A q := fun q h => by rw [← hAe]; exact Or.inr h
  have hS : va_S A s.heap s.heap [] := va_S.rf
  have hP : va_P D vwCl [(h, .inr (13, [.ref pe, .ref ne, .ref pa, .ref ro, .int dy])), (pe, .inr (9, [.int 0, .ref a1, .ref a2, .ref a3, .ref a4, .ref a5, .ref a6, .ref a7, .ref a8, .ref a9]))] s.heap := hP
  have hl := lv_entry ([.ref h]) (n := 4) (Nat.le_of_ble_eq_true rfl)
  rw [lg_entry_eq]
  generalize (lg_sl ([.ref h]) ++ List.replicate (4 - (lg_sl ([.ref h])).length) Slot.unset).toArray = ls at hl ⊢
  have hl : lv_has ls 4 [(0, .ref h)] := hl
  refine lv_iconst (v := 0) hx hb dX8_rings_0 (by decide) ?_
  refine lv_istore_n (lv' := [(1, .int 0), (0, .ref h)]) hx hb dX8_rings_1 rfl hl (by decide) rfl (fun ls hl => ?_)
  refine lv_iload_n hx hb dX8_rings_2 rfl (lv_at hl 0 rfl) ?_
  refine lv_aload_n hx hb dX8_rings_3 rfl (lv_at hl 1 rfl) ?_
  refine va_get (D := D) (ci := 13) (v := .ref pe) (C := RX8) (T := TX8) (N := 5) hx hb hts (fun w h => zx_Gc (uz_X8 w h)) hown hK hP 0 rfl rfl 0 (by decide) (hts (.fieldLink RX8 10 "Refereehall" "people" "LRefereehall$People;") (zx_Gc mm_228)) (fun _ h9 => h9) rfl dX8_rings_4 ?_
  refine va_get (D := D) (ci := 9) (v := .int 0) (C := RX4) (T := TX4) (N := 10) hx hb hts (fun w h => zx_Gc (uz_X4 w h)) hown hK hP 1 rfl rfl 0 (by decide) (hts (.fieldLink RX8 46 "Refereehall$People" "count" "I") (zx_Gc mm_131)) (fun _ h9 => h9) rfl dX8_rings_7 ?_
  refine lv_icmp_ge (tgt := 30) hx hb dX8_rings_10 (by decide) (fun _ => ?_) (fun c_206 => absurd (by decide) c_206)
  refine lv_iconst (v := 0) hx hb dX8_rings_30 (by decide) ?_
  refine lv_istore_n (lv' := [(1, .int 0), (0, .ref h)]) hx hb dX8_rings_31 rfl hl (by decide) rfl (fun ls hl => ?_)
  refine lv_iconst (v := 0) hx hb dX8_rings_32 (by decide) ?_
  refine lv_istore_n (lv' := [(2, .int 0), (1, .int 0), (0, .ref h)]) hx hb dX8_rings_33 rfl hl (by decide) rfl (fun ls hl => ?_)
  refine lv_iload_n hx hb dX8_rings_34 rfl (lv_at hl 0 rfl) ?_
  refine lv_aload_n hx hb dX8_rings_35 rfl (lv_at hl 2 rfl) ?_
  refine va_get (D := D) (ci := 13) (v := .ref pe) (C := RX8) (T := TX8) (N := 5) hx hb hts (fun w h => zx_Gc (uz_X8 w h)) hown hK hP 0 rfl rfl 0 (by decide) (hts (.fieldLink RX8 10 "Refereehall" "people" "LRefereehall$People;") (zx_Gc mm_228)) (fun _ h9 => h9) rfl dX8_rings_36 ?_
  refine va_get (D := D) (ci := 9) (v := .int 0) (C := RX4) (T := TX4) (N := 10) hx hb hts (fun w h => zx_Gc (uz_X4 w h)) hown hK hP 1 rfl rfl 0 (by decide) (hts (.fieldLink RX8 46 "Refereehall$People" "count" "I") (zx_Gc mm_131)) (fun _ h9 => h9) rfl dX8_rings_39 ?_
  refine lv_icmp_ge (tgt := 101) hx hb dX8_rings_42 (by decide) (fun _ => ?_) (fun c_207 => absurd (by decide) c_207)
  refine lv_iload_n hx hb dX8_rings_101 rfl (lv_at hl 1 rfl) ?_
  have hP9 := hP.sub (ws' := []) [] rfl
  have hD9 := hD.sub (ws' := []) [] (by decide) rfl
  exact W.iret (v := 0) hx hb hr (fun t ht hW => ⟨⟨0, (), rfl, rfl, zx_fin hP9 hD9 hK ht hW⟩, hS.F ht⟩) hS.2.2 dX8_rings_102
set_option maxHeartbeats 4000000 in
set_option maxRecDepth 100000 in
theorem c_X8_checksum (l : Launch) (hst : l.stackTraces = false) (D : va_G) (cy : Nat → ClassId) (ed sz : Nat) (h : Nat) (pe : Nat) (ne : Nat) (pa : Nat) (ro : Nat) (dy : Int32) (mc : Int32) (el : Nat) : Met l yX8_checksum wzX8_checksum ({ frames := 1, cells := 0, slots := 0, locals := 20 }) (zx_Pc D cy ed sz [.ref h] [(h, .inr (13, [.ref pe, .ref ne, .ref pa, .ref ro, .int dy])), (pa, .inr (4, [.int mc, .ref el, .int 0]))]) (va_Ql (fun (r9 : Int64) (u9 : Unit) => r9 = 0) (fun (u9 : Unit) (t9 : State) => zx_At D cy (va_A [(h, .inr (13, [.ref pe, .ref ne, .ref pa, .ref ro, .int dy])), (pa, .inr (4, [.int mc, .ref el, .int 0]))] sz) [] t9) (va_A [(h, .inr (13, [.ref pe, .ref ne, .ref pa, .ref ro, .int dy])), (pa, .inr (4, [.int mc, .ref el, .int 0]))] sz)) 0 0 (va_A [(h, .inr (13, [.ref pe, .ref ne, .ref pa, .ref ro, .int dy])), (pa, .inr (4, [.int mc, .ref el, .int 0]))] sz) := by
  refine Met.ofW (cc := cX8_checksum) (maxL := 4) (ret := (some .long)) (by decide) rfl ?_
  intro p e s m args below meth c s₁ B hml hv
  obtain ⟨rfl, hsz, hP, hK, hD0, hZ, hN⟩ := hv
  have hx := B.exec
  have hb := B.bytes
  have hr := B.returns
  have hts := atoms_spec (ws := wzX8_checksum) B.pre
  have hown : s.vm.findClass RX8 = some m.cls := findClass_of_methodNamed B.named
  have hlocks := B.notSynchronized
  subst hsz
  have hD := hD0.self (sz := s.heap.size)
  generalize hAe : va_A [(h, .inr (13, [.ref pe, .ref ne, .ref pa, .ref ro, .int dy])), (pa, .inr (4, [.int mc, .ref el, .int 0]))] s.heap.size = A at hD hZ ⊢
  have hA : ∀ q : Nat, s.heap.size ≤ q → A q := fun q h => by rw [← hAe]; exact Or.inr h
  have hS : va_S A s.heap s.heap [] := va_S.rf
  have hP : va_P D vwCl [(h, .inr (13, [.ref pe, .ref ne, .ref pa, .ref ro, .int dy])), (pa, .inr (4, [.int mc, .ref el, .int 0]))] s.heap := hP
  have hl := lv_entry ([.ref h]) (n := 4) (Nat.le_of_ble_eq_true rfl)
  rw [lg_entry_eq]
  generalize (lg_sl ([.ref h]) ++ List.replicate (4 - (lg_sl ([.ref h])).length) Slot.unset).toArray = ls at hl ⊢
  have hl : lv_has ls 4 [(0, .ref h)] := hl
  refine lv_lconst (v := 0) hx hb dX8_checksum_0 (by decide) ?_
  refine lv_lstore_n (lv' := [(1, .long 0), (0, .ref h)]) hx hb dX8_checksum_1 rfl hl (by decide) rfl (fun ls hl => ?_)
  refine lv_iconst (v := 0) hx hb dX8_checksum_2 (by decide) ?_
  refine lv_istore_n (lv' := [(3, .int 0), (1, .long 0), (0, .ref h)]) hx hb dX8_checksum_3 rfl hl (by decide) rfl (fun ls hl => ?_)
  refine lv_iload_n hx hb dX8_checksum_4 rfl (lv_at hl 0 rfl) ?_
  refine lv_aload_n hx hb dX8_checksum_5 rfl (lv_at hl 2 rfl) ?_
  refine va_get (D := D) (ci := 13) (v := .ref pa) (C := RX8) (T := TX8) (N := 5) hx hb hts (fun w h => zx_Gc (uz_X8 w h)) hown hK hP 0 rfl rfl 2 (by decide) (hts (.fieldLink RX8 26 "Refereehall" "papers" "Ljava/util/ArrayList;") (zx_Gc mm_230)) (fun _ h9 => h9) rfl dX8_checksum_6 ?_
  have hPc := hP.sub (ws' := [(pa, .inr (4, [.int mc, .ref el, .int 0]))]) [1] rfl
  have hDc := hD.sub (ws' := [(pa, .inr (4, [.int mc, .ref el, .int 0]))]) [1] (by decide) rfl
  have hFc := va_free (wc := [(pa, .inr (4, [.int mc, .ref el, .int 0]))]) hD hS hA [1] rfl
  refine va_calli (va_runV (As := []) (rest := [.int 0]) ⟨hx, hb, hml, hown, hts⟩ (c_AL_size l hst D cy ed s.heap.size pa el mc 0) (cwV 0 hts (zx_GV mm_252 mm_253 mm_254 mm_77 mm_255) rfl rfl rfl (by decide +kernel) ⟨(Nat.le_of_ble_eq_true rfl), (Nat.le_of_ble_eq_true rfl)⟩) ⟨zx_blind, va_recv hK hPc (ci := 4) (q0 := 0) rfl rfl, zx_give hPc hK hDc hS hFc hZ hN⟩ rfl rfl hl.1 rfl (lv_room (Nat.le_of_ble_eq_true rfl)) dX8_checksum_9 ⟨(Nat.le_of_ble_eq_true rfl), (Nat.le_of_ble_eq_true rfl)⟩) hS (fun q _ h => hFc q h) hFc (fun r9 u t H1 locs ht hvm hw hB hz1 hk1 hS => ?_)
  obtain rfl : r9 = 0 := hw
  obtain ⟨hP, hD⟩ := zx_join (wr := [(h, .inr (13, [.ref pe, .ref ne, .ref pa, .ref ro, .int dy]))]) (w1 := [(pa, .inr (4, [.int mc, .ref el, .int 0]))]) [1] [0] rfl rfl (by decide) (by decide) hP hD hk1 hFc hB ht
  generalize H1 = H at hP hS ⊢
  have hP : va_P D vwCl [(h, .inr (13, [.ref pe, .ref ne, .ref pa, .ref ro, .int dy])), (pa, .inr (4, [.int mc, .ref el, .int 0]))] H := hP
  have hD : va_D A [(h, .inr (13, [.ref pe, .ref ne, .ref pa, .ref ro, .int dy])), (pa, .inr (4, [.int mc, .ref el, .int 0]))] := hD
  refine W.widen (k := 0) (n := 0) (Nat.le_of_ble_eq_true rfl) (Nat.le_of_ble_eq_true rfl) ?_
  refine lv_icmp_ge (tgt := 40) hx hb dX8_checksum_12 (by decide) (fun _ => ?_) (fun c_208 => absurd (by decide) c_208)
  refine lv_lload_n hx hb dX8_checksum_40 rfl (lv_at hl 1 rfl) ?_
  have hP9 := hP.sub (ws' := []) [] rfl
  have hD9 := hD.sub (ws' := []) [] (by decide) rfl
  exact W.lret (v := 0) hx hb hr (fun t ht hW => ⟨⟨0, (), rfl, rfl, zx_fin hP9 hD9 hK ht hW⟩, hS.F ht⟩) hS.2.2 dX8_checksum_41
set_option maxHeartbeats 4000000 in
set_option maxRecDepth 100000 in
theorem c_X8_isSound (l : Launch) (hst : l.stackTraces = false) (D : va_G) (cy : Nat → ClassId) (ed sz : Nat) (h : Nat) (pe : Nat) (ne : Nat) (pa : Nat) (ro : Nat) (dy : Int32) (mc : Int32) (el : Nat) : Met l yX8_isSound wzX8_isSound ({ frames := 1, cells := 0, slots := 0, locals := 20 }) (zx_Pc D cy ed sz [.ref h] [(h, .inr (13, [.ref pe, .ref ne, .ref pa, .ref ro, .int dy])), (pa, .inr (4, [.int mc, .ref el, .int 0]))]) (va_Qi (fun (r9 : Int32) (u9 : Unit) => r9 = 1) (fun (u9 : Unit) (t9 : State) => zx_At D cy (va_A [(h, .inr (13, [.ref pe, .ref ne, .ref pa, .ref ro, .int dy])), (pa, .inr (4, [.int mc, .ref el, .int 0]))] sz) [] t9) (va_A [(h, .inr (13, [.ref pe, .ref ne, .ref pa, .ref ro, .int dy])), (pa, .inr (4, [.int mc, .ref el, .int 0]))] sz)) 0 0 (va_A [(h, .inr (13, [.ref pe, .ref ne, .ref pa, .ref ro, .int dy])), (pa, .inr (4, [.int mc, .ref el, .int 0]))] sz) := by
  refine Met.ofW (cc := cX8_isSound) (maxL := 4) (ret := (some .boolean)) (by decide) rfl ?_
  intro p e s m args below meth c s₁ B hml hv
  obtain ⟨rfl, hsz, hP, hK, hD0, hZ, hN⟩ := hv
  have hx := B.exec
  have hb := B.bytes
  have hr := B.returns
  have hts := atoms_spec (ws := wzX8_isSound) B.pre
  have hown : s.vm.findClass RX8 = some m.cls := findClass_of_methodNamed B.named
  have hlocks := B.notSynchronized
  subst hsz
  have hD := hD0.self (sz := s.heap.size)
  generalize hAe : va_A [(h, .inr (13, [.ref pe, .ref ne, .ref pa, .ref ro, .int dy])), (pa, .inr (4, [.int mc, .ref el, .int 0]))] s.heap.size = A at hD hZ ⊢
  have hA : ∀ q : Nat, s.heap.size ≤ q → A q := fun q h => by rw [← hAe]; exact Or.inr h
  have hS : va_S A s.heap s.heap [] := va_S.rf
  have hP : va_P D vwCl [(h, .inr (13, [.ref pe, .ref ne, .ref pa, .ref ro, .int dy])), (pa, .inr (4, [.int mc, .ref el, .int 0]))] s.heap := hP
  have hl := lv_entry ([.ref h]) (n := 4) (Nat.le_of_ble_eq_true rfl)
  rw [lg_entry_eq]
  generalize (lg_sl ([.ref h]) ++ List.replicate (4 - (lg_sl ([.ref h])).length) Slot.unset).toArray = ls at hl ⊢
  have hl : lv_has ls 4 [(0, .ref h)] := hl
  refine lv_iconst (v := 0) hx hb dX8_isSound_0 (by decide) ?_
  refine lv_istore_n (lv' := [(1, .int 0), (0, .ref h)]) hx hb dX8_isSound_1 rfl hl (by decide) rfl (fun ls hl => ?_)
  refine lv_iload_n hx hb dX8_isSound_2 rfl (lv_at hl 0 rfl) ?_
  refine lv_aload_n hx hb dX8_isSound_3 rfl (lv_at hl 1 rfl) ?_
  refine va_get (D := D) (ci := 13) (v := .ref pa) (C := RX8) (T := TX8) (N := 5) hx hb hts (fun w h => zx_Gc (uz_X8 w h)) hown hK hP 0 rfl rfl 2 (by decide) (hts (.fieldLink RX8 26 "Refereehall" "papers" "Ljava/util/ArrayList;") (zx_Gc mm_230)) (fun _ h9 => h9) rfl dX8_isSound_4 ?_
  have hPc := hP.sub (ws' := [(pa, .inr (4, [.int mc, .ref el, .int 0]))]) [1] rfl
  have hDc := hD.sub (ws' := [(pa, .inr (4, [.int mc, .ref el, .int 0]))]) [1] (by decide) rfl
  have hFc := va_free (wc := [(pa, .inr (4, [.int mc, .ref el, .int 0]))]) hD hS hA [1] rfl
  refine va_calli (va_runV (As := []) (rest := [.int 0]) ⟨hx, hb, hml, hown, hts⟩ (c_AL_size l hst D cy ed s.heap.size pa el mc 0) (cwV 0 hts (zx_GV mm_252 mm_253 mm_254 mm_77 mm_255) rfl rfl rfl (by decide +kernel) ⟨(Nat.le_of_ble_eq_true rfl), (Nat.le_of_ble_eq_true rfl)⟩) ⟨zx_blind, va_recv hK hPc (ci := 4) (q0 := 0) rfl rfl, zx_give hPc hK hDc hS hFc hZ hN⟩ rfl rfl hl.1 rfl (lv_room (Nat.le_of_ble_eq_true rfl)) dX8_isSound_7 ⟨(Nat.le_of_ble_eq_true rfl), (Nat.le_of_ble_eq_true rfl)⟩) hS (fun q _ h => hFc q h) hFc (fun r9 u t H1 locs ht hvm hw hB hz1 hk1 hS => ?_)
  obtain rfl : r9 = 0 := hw
  obtain ⟨hP, hD⟩ := zx_join (wr := [(h, .inr (13, [.ref pe, .ref ne, .ref pa, .ref ro, .int dy]))]) (w1 := [(pa, .inr (4, [.int mc, .ref el, .int 0]))]) [1] [0] rfl rfl (by decide) (by decide) hP hD hk1 hFc hB ht
  generalize H1 = H at hP hS ⊢
  have hP : va_P D vwCl [(h, .inr (13, [.ref pe, .ref ne, .ref pa, .ref ro, .int dy])), (pa, .inr (4, [.int mc, .ref el, .int 0]))] H := hP
  have hD : va_D A [(h, .inr (13, [.ref pe, .ref ne, .ref pa, .ref ro, .int dy])), (pa, .inr (4, [.int mc, .ref el, .int 0]))] := hD
  refine W.widen (k := 0) (n := 0) (Nat.le_of_ble_eq_true rfl) (Nat.le_of_ble_eq_true rfl) ?_
  refine lv_icmp_ge (tgt := 109) hx hb dX8_isSound_10 (by decide) (fun _ => ?_) (fun c_209 => absurd (by decide) c_209)
  refine lv_iconst (v := 1) hx hb dX8_isSound_109 (by decide) ?_
  have hP9 := hP.sub (ws' := []) [] rfl
  have hD9 := hD.sub (ws' := []) [] (by decide) rfl
  exact W.zret (v := 1) hx hb hr rfl (fun t ht hW => ⟨⟨1, (), rfl, rfl, zx_fin hP9 hD9 hK ht hW⟩, hS.F ht⟩) hS.2.2 dX8_isSound_110
set_option maxHeartbeats 4000000 in
set_option maxRecDepth 100000 in
theorem c_X8_acceptedShare (l : Launch) (hst : l.stackTraces = false) (D : va_G) (cy : Nat → ClassId) (ed sz : Nat) (h : Nat) (pe : Nat) (ne : Nat) (pa : Nat) (ro : Nat) (dy : Int32) (mc : Int32) (el : Nat) : vx_Met l yX8_acceptedShare wzX8_acceptedShare ({ frames := 6, cells := 1, slots := 6, locals := 81 }) (zx_Pc D cy ed sz [.ref h] [(h, .inr (13, [.ref pe, .ref ne, .ref pa, .ref ro, .int dy])), (pa, .inr (4, [.int mc, .ref el, .int 0]))]) (va_Qf (fun (_ : UInt32) (_ : Unit) => False) (fun (u9 : Unit) (t9 : State) => zx_At D cy (va_A [(h, .inr (13, [.ref pe, .ref ne, .ref pa, .ref ro, .int dy])), (pa, .inr (4, [.int mc, .ref el, .int 0]))] sz) [] t9) (va_A [(h, .inr (13, [.ref pe, .ref ne, .ref pa, .ref ro, .int dy])), (pa, .inr (4, [.int mc, .ref el, .int 0]))] sz)) (zx_X (fun E9 => E9 = "java/lang/ArithmeticException") (va_A [(h, .inr (13, [.ref pe, .ref ne, .ref pa, .ref ro, .int dy])), (pa, .inr (4, [.int mc, .ref el, .int 0]))] sz)) 1 6 (va_A [(h, .inr (13, [.ref pe, .ref ne, .ref pa, .ref ro, .int dy])), (pa, .inr (4, [.int mc, .ref el, .int 0]))] sz) := by
  refine vx_ofW (cc := cX8_acceptedShare) (maxL := 5) (ret := (some .float)) (by decide) rfl ?_
  intro p e s m args below meth c s₁ B hml htb hv
  obtain ⟨rfl, hsz, hP, hK, hD0, hZ, hN⟩ := hv
  have hx := B.exec
  have hb := B.bytes
  have hr := B.returns
  have hts := atoms_spec (ws := wzX8_acceptedShare) B.pre
  have hown : s.vm.findClass RX8 = some m.cls := findClass_of_methodNamed B.named
  have hlocks := B.notSynchronized
  subst hsz
  have hD := hD0.self (sz := s.heap.size)
  generalize hAe : va_A [(h, .inr (13, [.ref pe, .ref ne, .ref pa, .ref ro, .int dy])), (pa, .inr (4, [.int mc, .ref el, .int 0]))] s.heap.size = A at hD hZ ⊢
  have hA : ∀ q : Nat, s.heap.size ≤ q → A q := fun q h => by rw [← hAe]; exact Or.inr h
  have hS : va_S A s.heap s.heap [] := va_S.rf
  have hP : va_P D vwCl [(h, .inr (13, [.ref pe, .ref ne, .ref pa, .ref ro, .int dy])), (pa, .inr (4, [.int mc, .ref el, .int 0]))] s.heap := hP
  have hl := lv_entry ([.ref h]) (n := 5) (Nat.le_of_ble_eq_true rfl)
  rw [lg_entry_eq]
  generalize (lg_sl ([.ref h]) ++ List.replicate (5 - (lg_sl ([.ref h])).length) Slot.unset).toArray = ls at hl ⊢
  have hl : lv_has ls 5 [(0, .ref h)] := hl
  refine lv_aload_n hx hb dX8_acceptedShare_0 rfl (lv_at hl 0 rfl) ?_
  refine va_get (D := D) (ci := 13) (v := .ref pa) (C := RX8) (T := TX8) (N := 5) hx hb hts (fun w h => zx_Gc (uz_X8 w h)) hown hK hP 0 rfl rfl 2 (by decide) (hts (.fieldLink RX8 26 "Refereehall" "papers" "Ljava/util/ArrayList;") (zx_Gc mm_230)) (fun _ h9 => h9) rfl dX8_acceptedShare_1 ?_
  have hPc := hP.sub (ws' := [(pa, .inr (4, [.int mc, .ref el, .int 0]))]) [1] rfl
  have hDc := hD.sub (ws' := [(pa, .inr (4, [.int mc, .ref el, .int 0]))]) [1] (by decide) rfl
  have hFc := va_free (wc := [(pa, .inr (4, [.int mc, .ref el, .int 0]))]) hD hS hA [1] rfl
  refine va_calli (va_runV (As := []) (rest := []) ⟨hx, hb, hml, hown, hts⟩ (c_AL_size l hst D cy ed s.heap.size pa el mc 0) (cwV 0 hts (zx_GV mm_252 mm_253 mm_254 mm_77 mm_255) rfl rfl rfl (by decide +kernel) ⟨(Nat.le_of_ble_eq_true rfl), (Nat.le_of_ble_eq_true rfl)⟩) ⟨zx_blind, va_recv hK hPc (ci := 4) (q0 := 0) rfl rfl, zx_give hPc hK hDc hS hFc hZ hN⟩ rfl rfl hl.1 rfl (lv_room (Nat.le_of_ble_eq_true rfl)) dX8_acceptedShare_4 ⟨(Nat.le_of_ble_eq_true rfl), (Nat.le_of_ble_eq_true rfl)⟩) hS (fun q _ h => hFc q h) hFc (fun r9 u t H1 locs ht hvm hw hB hz1 hk1 hS => ?_)
  obtain rfl : r9 = 0 := hw
  obtain ⟨hP, hD⟩ := zx_join (wr := [(h, .inr (13, [.ref pe, .ref ne, .ref pa, .ref ro, .int dy]))]) (w1 := [(pa, .inr (4, [.int mc, .ref el, .int 0]))]) [1] [0] rfl rfl (by decide) (by decide) hP hD hk1 hFc hB ht
  generalize H1 = H at hP hS ⊢
  have hP : va_P D vwCl [(h, .inr (13, [.ref pe, .ref ne, .ref pa, .ref ro, .int dy])), (pa, .inr (4, [.int mc, .ref el, .int 0]))] H := hP
  have hD : va_D A [(h, .inr (13, [.ref pe, .ref ne, .ref pa, .ref ro, .int dy])), (pa, .inr (4, [.int mc, .ref el, .int 0]))] := hD
  refine W.widen (k := 0) (n := 0) (Nat.le_of_ble_eq_true rfl) (Nat.le_of_ble_eq_true rfl) ?_
  refine lv_istore_n (lv' := [(1, .int 0), (0, .ref h)]) hx hb dX8_acceptedShare_7 rfl hl (by decide) rfl (fun ls hl => ?_)
  refine lv_iload_n hx hb dX8_acceptedShare_8 rfl (lv_at hl 0 rfl) ?_
  refine lv_if_ne (tgt := 20) hx hb dX8_acceptedShare_9 (by decide) (fun c_210 => absurd c_210 (by decide)) (fun _ => ?_)
  have hat9 : ∀ w ∈ (vx_at0 RX8 399 "java/lang/ArithmeticException" ["java/lang/RuntimeException", "java/lang/Exception"]).filter goodWord, w ∈ wzX8_acceptedShare := fun w h => zx_Gc (tw_RX8_399 w h)
  exact vx_throw0 (names := ["java/lang/RuntimeException", "java/lang/Exception"]) hx hb hst hown (by decide +kernel) (by decide +kernel) (hts (.classLink RX8 397 "java/lang/ArithmeticException") (zx_Gc mm_1489)) (hts (.initialized "java/lang/ArithmeticException") (zx_Gc mm_112)) (vx_hat (B := (vx_at0 RX8 399 "java/lang/ArithmeticException" ["java/lang/RuntimeException", "java/lang/Exception"]).filter (fun w => !goodWord w)) (fun w9 h9 => hts w9 (hat9 w9 h9)) (fun _ h9 => h9) (zx_softs tv_RX8_399 hN)) (by decide +kernel) hZ.1 hZ.2.1 hS (hl.1.trans hml.symm) dX8_acceptedShare_12 dX8_acceptedShare_15 dX8_acceptedShare_16 dX8_acceptedShare_19 (fun x9 h9 => absurd h9 (htb x9)) (Nat.le_of_ble_eq_true rfl) (Nat.le_of_ble_eq_true rfl) (Nat.le_of_ble_eq_true rfl) (Nat.le_of_ble_eq_true rfl) hlocks (zx_thr (P := (fun E9 => E9 = "java/lang/ArithmeticException")) hS (rfl)) hS.2.2 (Nat.le_of_ble_eq_true rfl) (Nat.le_of_ble_eq_true rfl)
set_option maxHeartbeats 4000000 in
set_option maxRecDepth 100000 in
theorem c_X8_meanScore (l : Launch) (hst : l.stackTraces = false) (D : va_G) (cy : Nat → ClassId) (ed sz : Nat) (h : Nat) (pe : Nat) (ne : Nat) (pa : Nat) (ro : Nat) (dy : Int32) (a1 : Nat) (a2 : Nat) (a3 : Nat) (a4 : Nat) (a5 : Nat) (a6 : Nat) (a7 : Nat) (a8 : Nat) (a9 : Nat) : vx_Met l yX8_meanScore wzX8_meanScore ({ frames := 6, cells := 1, slots := 6, locals := 81 }) (zx_Pc D cy ed sz [.ref h] [(h, .inr (13, [.ref pe, .ref ne, .ref pa, .ref ro, .int dy])), (pe, .inr (9, [.int 0, .ref a1, .ref a2, .ref a3, .ref a4, .ref a5, .ref a6, .ref a7, .ref a8, .ref a9]))]) (va_Qd (fun (_ : UInt64) (_ : Unit) => False) (fun (u9 : Unit) (t9 : State) => zx_At D cy (va_A [(h, .inr (13, [.ref pe, .ref ne, .ref pa, .ref ro, .int dy])), (pe, .inr (9, [.int 0, .ref a1, .ref a2, .ref a3, .ref a4, .ref a5, .ref a6, .ref a7, .ref a8, .ref a9]))] sz) [] t9) (va_A [(h, .inr (13, [.ref pe, .ref ne, .ref pa, .ref ro, .int dy])), (pe, .inr (9, [.int 0, .ref a1, .ref a2, .ref a3, .ref a4, .ref a5, .ref a6, .ref a7, .ref a8, .ref a9]))] sz)) (zx_X (fun E9 => E9 = "java/lang/ArithmeticException") (va_A [(h, .inr (13, [.ref pe, .ref ne, .ref pa, .ref ro, .int dy])), (pe, .inr (9, [.int 0, .ref a1, .ref a2, .ref a3, .ref a4, .ref a5, .ref a6, .ref a7, .ref a8, .ref a9]))] sz)) 1 6 (va_A [(h, .inr (13, [.ref pe, .ref ne, .ref pa, .ref ro, .int dy])), (pe, .inr (9, [.int 0, .ref a1, .ref a2, .ref a3, .ref a4, .ref a5, .ref a6, .ref a7, .ref a8, .ref a9]))] sz) := by
  refine vx_ofW (cc := cX8_meanScore) (maxL := 4) (ret := (some .double)) (by decide) rfl ?_
  intro p e s m args below meth c s₁ B hml htb hv
  obtain ⟨rfl, hsz, hP, hK, hD0, hZ, hN⟩ := hv
  have hx := B.exec
  have hb := B.bytes
  have hr := B.returns
  have hts := atoms_spec (ws := wzX8_meanScore) B.pre
  have hown : s.vm.findClass RX8 = some m.cls := findClass_of_methodNamed B.named
  have hlocks := B.notSynchronized
  subst hsz
  have hD := hD0.self (sz := s.heap.size)
  generalize hAe : va_A [(h, .inr (13, [.ref pe, .ref ne, .ref pa, .ref ro, .int dy])), (pe, .inr (9, [.int 0, .ref a1, .ref a2, .ref a3, .ref a4, .ref a5, .ref a6, .ref a7, .ref a8, .ref a9]))] s.heap.size = A at hD hZ ⊢
  have hA : ∀ q : Nat, s.heap.size ≤ q → A q := fun q h => by rw [← hAe]; exact Or.inr h
  have hS : va_S A s.heap s.heap [] := va_S.rf
  have hP : va_P D vwCl [(h, .inr (13, [.ref pe, .ref ne, .ref pa, .ref ro, .int dy])), (pe, .inr (9, [.int 0, .ref a1, .ref a2, .ref a3, .ref a4, .ref a5, .ref a6, .ref a7, .ref a8, .ref a9]))] s.heap := hP
  have hl := lv_entry ([.ref h]) (n := 4) (Nat.le_of_ble_eq_true rfl)
  rw [lg_entry_eq]
  generalize (lg_sl ([.ref h]) ++ List.replicate (4 - (lg_sl ([.ref h])).length) Slot.unset).toArray = ls at hl ⊢
  have hl : lv_has ls 4 [(0, .ref h)] := hl
  refine lv_iconst (v := 0) hx hb dX8_meanScore_0 (by decide) ?_
  refine lv_istore_n (lv' := [(1, .int 0), (0, .ref h)]) hx hb dX8_meanScore_1 rfl hl (by decide) rfl (fun ls hl => ?_)
  refine lv_iconst (v := 0) hx hb dX8_meanScore_2 (by decide) ?_
  refine lv_istore_n (lv' := [(2, .int 0), (1, .int 0), (0, .ref h)]) hx hb dX8_meanScore_3 rfl hl (by decide) rfl (fun ls hl => ?_)
  refine lv_iconst (v := 0) hx hb dX8_meanScore_4 (by decide) ?_
  refine lv_istore_n (lv' := [(3, .int 0), (2, .int 0), (1, .int 0), (0, .ref h)]) hx hb dX8_meanScore_5 rfl hl (by decide) rfl (fun ls hl => ?_)
  refine lv_iload_n hx hb dX8_meanScore_6 rfl (lv_at hl 0 rfl) ?_
  refine lv_aload_n hx hb dX8_meanScore_7 rfl (lv_at hl 3 rfl) ?_
  refine va_get (D := D) (ci := 13) (v := .ref pe) (C := RX8) (T := TX8) (N := 5) hx hb hts (fun w h => zx_Gc (uz_X8 w h)) hown hK hP 0 rfl rfl 0 (by decide) (hts (.fieldLink RX8 10 "Refereehall" "people" "LRefereehall$People;") (zx_Gc mm_228)) (fun _ h9 => h9) rfl dX8_meanScore_8 ?_
  refine va_get (D := D) (ci := 9) (v := .int 0) (C := RX4) (T := TX4) (N := 10) hx hb hts (fun w h => zx_Gc (uz_X4 w h)) hown hK hP 1 rfl rfl 0 (by decide) (hts (.fieldLink RX8 46 "Refereehall$People" "count" "I") (zx_Gc mm_131)) (fun _ h9 => h9) rfl dX8_meanScore_11 ?_
  refine lv_icmp_ge (tgt := 47) hx hb dX8_meanScore_14 (by decide) (fun _ => ?_) (fun c_211 => absurd (by decide) c_211)
  refine lv_iload_n hx hb dX8_meanScore_47 rfl (lv_at hl 1 rfl) ?_
  refine lv_if_ne (tgt := 59) hx hb dX8_meanScore_48 (by decide) (fun c_212 => absurd c_212 (by decide)) (fun _ => ?_)
  have hat9 : ∀ w ∈ (vx_at0 RX8 399 "java/lang/ArithmeticException" ["java/lang/RuntimeException", "java/lang/Exception"]).filter goodWord, w ∈ wzX8_meanScore := fun w h => zx_Gc (tw_RX8_399 w h)
  exact vx_throw0 (names := ["java/lang/RuntimeException", "java/lang/Exception"]) hx hb hst hown (by decide +kernel) (by decide +kernel) (hts (.classLink RX8 397 "java/lang/ArithmeticException") (zx_Gc mm_1489)) (hts (.initialized "java/lang/ArithmeticException") (zx_Gc mm_112)) (vx_hat (B := (vx_at0 RX8 399 "java/lang/ArithmeticException" ["java/lang/RuntimeException", "java/lang/Exception"]).filter (fun w => !goodWord w)) (fun w9 h9 => hts w9 (hat9 w9 h9)) (fun _ h9 => h9) (zx_softs tv_RX8_399 hN)) (by decide +kernel) hZ.1 hZ.2.1 hS (hl.1.trans hml.symm) dX8_meanScore_51 dX8_meanScore_54 dX8_meanScore_55 dX8_meanScore_58 (fun x9 h9 => absurd h9 (htb x9)) (Nat.le_of_ble_eq_true rfl) (Nat.le_of_ble_eq_true rfl) (Nat.le_of_ble_eq_true rfl) (Nat.le_of_ble_eq_true rfl) hlocks (zx_thr (P := (fun E9 => E9 = "java/lang/ArithmeticException")) hS (rfl)) hS.2.2 (Nat.le_of_ble_eq_true rfl) (Nat.le_of_ble_eq_true rfl)
