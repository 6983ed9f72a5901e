theorem dL_tellConflict_0 : decode cL_tellConflict 0 = .ok (.aload_n 3, 1) := by decide +kernel
theorem dL_tellConflict_1 : decode cL_tellConflict 1 = .ok (.iconst 0, 1) := by decide +kernel
theorem dL_tellConflict_2 : decode cL_tellConflict 2 = .ok (.aload_n 0, 1) := by decide +kernel
theorem dL_tellConflict_3 : decode cL_tellConflict 3 = .ok (.iload_n 1, 1) := by decide +kernel
theorem dL_tellConflict_4 : decode cL_tellConflict 4 = .ok (.iload_n 2, 1) := by decide +kernel
theorem dL_tellConflict_5 : decode cL_tellConflict 5 = .ok (.invokevirtual 17, 3) := by decide +kernel
theorem dL_tellConflict_20 : decode cL_tellConflict 20 = .ok (.astore 4, 2) := by decide +kernel
theorem dL_tellConflict_22 : decode cL_tellConflict 22 = .ok (.iconst 1, 1) := by decide +kernel
theorem dL_tellConflict_23 : decode cL_tellConflict 23 = .ok (.ireturn, 1) := by decide +kernel
theorem dL_haveConflict_0 : decode cL_haveConflict 0 = .ok (.aload_n 3, 1) := by decide +kernel
theorem dL_haveConflict_1 : decode cL_haveConflict 1 = .ok (.iconst 0, 1) := by decide +kernel
theorem dL_haveConflict_2 : decode cL_haveConflict 2 = .ok (.aload_n 0, 1) := by decide +kernel
theorem dL_haveConflict_3 : decode cL_haveConflict 3 = .ok (.iload_n 1, 1) := by decide +kernel
theorem dL_haveConflict_4 : decode cL_haveConflict 4 = .ok (.iload_n 2, 1) := by decide +kernel
theorem dL_haveConflict_5 : decode cL_haveConflict 5 = .ok (.invokevirtual 23, 3) := by decide +kernel
theorem dL_haveConflict_20 : decode cL_haveConflict 20 = .ok (.astore 4, 2) := by decide +kernel
theorem dL_haveConflict_22 : decode cL_haveConflict 22 = .ok (.iconst 1, 1) := by decide +kernel
theorem dL_haveConflict_23 : decode cL_haveConflict 23 = .ok (.ireturn, 1) := by decide +kernel
theorem dL_sendAway_0 : decode cL_sendAway 0 = .ok (.aload_n 3, 1) := by decide +kernel
theorem dL_sendAway_1 : decode cL_sendAway 1 = .ok (.iconst 0, 1) := by decide +kernel
theorem dL_sendAway_2 : decode cL_sendAway 2 = .ok (.aload_n 0, 1) := by decide +kernel
theorem dL_sendAway_3 : decode cL_sendAway 3 = .ok (.iload_n 1, 1) := by decide +kernel
theorem dL_sendAway_4 : decode cL_sendAway 4 = .ok (.iload_n 2, 1) := by decide +kernel
theorem dL_sendAway_5 : decode cL_sendAway 5 = .ok (.invokevirtual 26, 3) := by decide +kernel
theorem dL_sendAway_13 : decode cL_sendAway 13 = .ok (.astore 4, 2) := by decide +kernel
theorem dL_sendAway_15 : decode cL_sendAway 15 = .ok (.iconst 1, 1) := by decide +kernel
theorem dL_sendAway_16 : decode cL_sendAway 16 = .ok (.ireturn, 1) := by decide +kernel
theorem dL_addEditor_0 : decode cL_addEditor 0 = .ok (.aload_n 3, 1) := by decide +kernel
theorem dL_addEditor_1 : decode cL_addEditor 1 = .ok (.iconst 0, 1) := by decide +kernel
theorem dL_addEditor_2 : decode cL_addEditor 2 = .ok (.aload_n 0, 1) := by decide +kernel
theorem dL_addEditor_3 : decode cL_addEditor 3 = .ok (.iload_n 1, 1) := by decide +kernel
theorem dL_addEditor_4 : decode cL_addEditor 4 = .ok (.iload_n 2, 1) := by decide +kernel
theorem dL_addEditor_5 : decode cL_addEditor 5 = .ok (.invokevirtual 29, 3) := by decide +kernel
theorem dL_addEditor_13 : decode cL_addEditor 13 = .ok (.astore 4, 2) := by decide +kernel
theorem dL_addEditor_15 : decode cL_addEditor 15 = .ok (.iconst 1, 1) := by decide +kernel
theorem dL_addEditor_16 : decode cL_addEditor 16 = .ok (.ireturn, 1) := by decide +kernel
theorem dL_begin_0 : decode cL_begin 0 = .ok (.aload 4, 2) := by decide +kernel
theorem dL_begin_2 : decode cL_begin 2 = .ok (.iconst 0, 1) := by decide +kernel
theorem dL_begin_3 : decode cL_begin 3 = .ok (.aload_n 0, 1) := by decide +kernel
theorem dL_begin_4 : decode cL_begin 4 = .ok (.iload_n 1, 1) := by decide +kernel
theorem dL_begin_5 : decode cL_begin 5 = .ok (.iload_n 2, 1) := by decide +kernel
theorem dL_begin_6 : decode cL_begin 6 = .ok (.iload_n 3, 1) := by decide +kernel
theorem dL_begin_7 : decode cL_begin 7 = .ok (.invokevirtual 38, 3) := by decide +kernel
theorem dL_begin_15 : decode cL_begin 15 = .ok (.astore 5, 2) := by decide +kernel
theorem dL_begin_17 : decode cL_begin 17 = .ok (.iconst 1, 1) := by decide +kernel
theorem dL_begin_18 : decode cL_begin 18 = .ok (.ireturn, 1) := by decide +kernel
theorem dL_addAuthor_0 : decode cL_addAuthor 0 = .ok (.aload_n 3, 1) := by decide +kernel
theorem dL_addAuthor_1 : decode cL_addAuthor 1 = .ok (.iconst 0, 1) := by decide +kernel
theorem dL_addAuthor_2 : decode cL_addAuthor 2 = .ok (.aload_n 0, 1) := by decide +kernel
theorem dL_addAuthor_3 : decode cL_addAuthor 3 = .ok (.iload_n 1, 1) := by decide +kernel
theorem dL_addAuthor_4 : decode cL_addAuthor 4 = .ok (.iload_n 2, 1) := by decide +kernel
theorem dL_addAuthor_5 : decode cL_addAuthor 5 = .ok (.invokevirtual 42, 3) := by decide +kernel
theorem dL_addAuthor_13 : decode cL_addAuthor 13 = .ok (.astore 4, 2) := by decide +kernel
theorem dL_addAuthor_15 : decode cL_addAuthor 15 = .ok (.iconst 1, 1) := by decide +kernel
theorem dL_addAuthor_16 : decode cL_addAuthor 16 = .ok (.ireturn, 1) := by decide +kernel
theorem dL_dropAuthor_0 : decode cL_dropAuthor 0 = .ok (.aload_n 3, 1) := by decide +kernel
theorem dL_dropAuthor_1 : decode cL_dropAuthor 1 = .ok (.iconst 0, 1) := by decide +kernel
theorem dL_dropAuthor_2 : decode cL_dropAuthor 2 = .ok (.aload_n 0, 1) := by decide +kernel
theorem dL_dropAuthor_3 : decode cL_dropAuthor 3 = .ok (.iload_n 1, 1) := by decide +kernel
theorem dL_dropAuthor_4 : decode cL_dropAuthor 4 = .ok (.iload_n 2, 1) := by decide +kernel
theorem dL_dropAuthor_5 : decode cL_dropAuthor 5 = .ok (.invokevirtual 47, 3) := by decide +kernel
theorem dL_dropAuthor_13 : decode cL_dropAuthor 13 = .ok (.astore 4, 2) := by decide +kernel
theorem dL_dropAuthor_15 : decode cL_dropAuthor 15 = .ok (.iconst 1, 1) := by decide +kernel
theorem dL_dropAuthor_16 : decode cL_dropAuthor 16 = .ok (.ireturn, 1) := by decide +kernel
theorem dL_sign_0 : decode cL_sign 0 = .ok (.aload_n 3, 1) := by decide +kernel
theorem dL_sign_1 : decode cL_sign 1 = .ok (.iconst 0, 1) := by decide +kernel
theorem dL_sign_2 : decode cL_sign 2 = .ok (.aload_n 0, 1) := by decide +kernel
theorem dL_sign_3 : decode cL_sign 3 = .ok (.iload_n 1, 1) := by decide +kernel
theorem dL_sign_4 : decode cL_sign 4 = .ok (.iload_n 2, 1) := by decide +kernel
theorem dL_sign_5 : decode cL_sign 5 = .ok (.invokevirtual 50, 3) := by decide +kernel
theorem dL_sign_20 : decode cL_sign 20 = .ok (.astore 4, 2) := by decide +kernel
theorem dL_sign_22 : decode cL_sign 22 = .ok (.iconst 1, 1) := by decide +kernel
theorem dL_sign_23 : decode cL_sign 23 = .ok (.ireturn, 1) := by decide +kernel
theorem dL_revise_0 : decode cL_revise 0 = .ok (.aload_n 3, 1) := by decide +kernel
theorem dL_revise_1 : decode cL_revise 1 = .ok (.iconst 0, 1) := by decide +kernel
theorem dL_revise_2 : decode cL_revise 2 = .ok (.aload_n 0, 1) := by decide +kernel
theorem dL_revise_3 : decode cL_revise 3 = .ok (.iload_n 1, 1) := by decide +kernel
theorem dL_revise_4 : decode cL_revise 4 = .ok (.iload_n 2, 1) := by decide +kernel
theorem dL_revise_5 : decode cL_revise 5 = .ok (.invokevirtual 53, 3) := by decide +kernel
theorem dL_revise_13 : decode cL_revise 13 = .ok (.astore 4, 2) := by decide +kernel
theorem dL_revise_15 : decode cL_revise 15 = .ok (.iconst 1, 1) := by decide +kernel
theorem dL_revise_16 : decode cL_revise 16 = .ok (.ireturn, 1) := by decide +kernel
theorem dL_withdraw_0 : decode cL_withdraw 0 = .ok (.aload_n 2, 1) := by decide +kernel
theorem dL_withdraw_1 : decode cL_withdraw 1 = .ok (.iconst 0, 1) := by decide +kernel
theorem dL_withdraw_2 : decode cL_withdraw 2 = .ok (.aload_n 0, 1) := by decide +kernel
theorem dL_withdraw_3 : decode cL_withdraw 3 = .ok (.iload_n 1, 1) := by decide +kernel
theorem dL_withdraw_4 : decode cL_withdraw 4 = .ok (.invokevirtual 56, 3) := by decide +kernel
theorem dL_withdraw_12 : decode cL_withdraw 12 = .ok (.astore_n 3, 1) := by decide +kernel
theorem dL_withdraw_13 : decode cL_withdraw 13 = .ok (.iconst 1, 1) := by decide +kernel
theorem dL_withdraw_14 : decode cL_withdraw 14 = .ok (.ireturn, 1) := by decide +kernel
theorem dL_assign_0 : decode cL_assign 0 = .ok (.aload_n 2, 1) := by decide +kernel
theorem dL_assign_1 : decode cL_assign 1 = .ok (.iconst 0, 1) := by decide +kernel
theorem dL_assign_2 : decode cL_assign 2 = .ok (.aload_n 0, 1) := by decide +kernel
theorem dL_assign_3 : decode cL_assign 3 = .ok (.iload_n 1, 1) := by decide +kernel
theorem dL_assign_4 : decode cL_assign 4 = .ok (.invokevirtual 60, 3) := by decide +kernel
theorem dL_assign_12 : decode cL_assign 12 = .ok (.astore_n 3, 1) := by decide +kernel
theorem dL_assign_13 : decode cL_assign 13 = .ok (.iconst 1, 1) := by decide +kernel
theorem dL_assign_14 : decode cL_assign 14 = .ok (.ireturn, 1) := by decide +kernel
theorem dL_editorOf_0 : decode cL_editorOf 0 = .ok (.aload_n 2, 1) := by decide +kernel
theorem dL_editorOf_1 : decode cL_editorOf 1 = .ok (.iconst 0, 1) := by decide +kernel
theorem dL_editorOf_2 : decode cL_editorOf 2 = .ok (.aload_n 0, 1) := by decide +kernel
theorem dL_editorOf_3 : decode cL_editorOf 3 = .ok (.iload_n 1, 1) := by decide +kernel
theorem dL_editorOf_4 : decode cL_editorOf 4 = .ok (.invokevirtual 66, 3) := by decide +kernel
theorem dL_editorOf_12 : decode cL_editorOf 12 = .ok (.astore_n 3, 1) := by decide +kernel
theorem dL_editorOf_13 : decode cL_editorOf 13 = .ok (.iconst 1, 1) := by decide +kernel
theorem dL_editorOf_14 : decode cL_editorOf 14 = .ok (.ireturn, 1) := by decide +kernel
theorem dL_invite_0 : decode cL_invite 0 = .ok (.aload_n 3, 1) := by decide +kernel
theorem dL_invite_1 : decode cL_invite 1 = .ok (.iconst 0, 1) := by decide +kernel
theorem dL_invite_2 : decode cL_invite 2 = .ok (.aload_n 0, 1) := by decide +kernel
theorem dL_invite_3 : decode cL_invite 3 = .ok (.iload_n 1, 1) := by decide +kernel
theorem dL_invite_4 : decode cL_invite 4 = .ok (.iload_n 2, 1) := by decide +kernel
theorem dL_invite_5 : decode cL_invite 5 = .ok (.invokevirtual 69, 3) := by decide +kernel
theorem dL_invite_13 : decode cL_invite 13 = .ok (.astore 4, 2) := by decide +kernel
theorem dL_invite_15 : decode cL_invite 15 = .ok (.iconst 1, 1) := by decide +kernel
theorem dL_invite_16 : decode cL_invite 16 = .ok (.ireturn, 1) := by decide +kernel
theorem dL_invitation_0 : decode cL_invitation 0 = .ok (.aload_n 3, 1) := by decide +kernel
theorem dL_invitation_1 : decode cL_invitation 1 = .ok (.iconst 0, 1) := by decide +kernel
theorem dL_invitation_2 : decode cL_invitation 2 = .ok (.aload_n 0, 1) := by decide +kernel
theorem dL_invitation_3 : decode cL_invitation 3 = .ok (.iload_n 1, 1) := by decide +kernel
theorem dL_invitation_4 : decode cL_invitation 4 = .ok (.iload_n 2, 1) := by decide +kernel
theorem dL_invitation_5 : decode cL_invitation 5 = .ok (.invokevirtual 72, 3) := by decide +kernel
theorem dL_invitation_13 : decode cL_invitation 13 = .ok (.astore 4, 2) := by decide +kernel
theorem dL_invitation_15 : decode cL_invitation 15 = .ok (.iconst 1, 1) := by decide +kernel
theorem dL_invitation_16 : decode cL_invitation 16 = .ok (.ireturn, 1) := by decide +kernel
theorem dL_answer_0 : decode cL_answer 0 = .ok (.aload 4, 2) := by decide +kernel
theorem dL_answer_2 : decode cL_answer 2 = .ok (.iconst 0, 1) := by decide +kernel
theorem dL_answer_3 : decode cL_answer 3 = .ok (.aload_n 0, 1) := by decide +kernel
theorem dL_answer_4 : decode cL_answer 4 = .ok (.iload_n 1, 1) := by decide +kernel
theorem dL_answer_5 : decode cL_answer 5 = .ok (.iload_n 2, 1) := by decide +kernel
theorem dL_answer_6 : decode cL_answer 6 = .ok (.iload_n 3, 1) := by decide +kernel
theorem dL_answer_7 : decode cL_answer 7 = .ok (.invokevirtual 76, 3) := by decide +kernel
theorem dL_answer_15 : decode cL_answer 15 = .ok (.astore 5, 2) := by decide +kernel
theorem dL_answer_17 : decode cL_answer 17 = .ok (.iconst 1, 1) := by decide +kernel
theorem dL_answer_18 : decode cL_answer 18 = .ok (.ireturn, 1) := by decide +kernel
theorem dL_report_0 : decode cL_report 0 = .ok (.aload 6, 2) := by decide +kernel
theorem dL_report_2 : decode cL_report 2 = .ok (.iconst 0, 1) := by decide +kernel
theorem dL_report_3 : decode cL_report 3 = .ok (.aload_n 0, 1) := by decide +kernel
theorem dL_report_4 : decode cL_report 4 = .ok (.iload_n 1, 1) := by decide +kernel
theorem dL_report_5 : decode cL_report 5 = .ok (.iload_n 2, 1) := by decide +kernel
theorem dL_report_6 : decode cL_report 6 = .ok (.iload_n 3, 1) := by decide +kernel
theorem dL_report_7 : decode cL_report 7 = .ok (.iload 4, 2) := by decide +kernel
theorem dL_report_9 : decode cL_report 9 = .ok (.iload 5, 2) := by decide +kernel
theorem dL_report_11 : decode cL_report 11 = .ok (.invokevirtual 80, 3) := by decide +kernel
theorem dL_report_19 : decode cL_report 19 = .ok (.astore 7, 2) := by decide +kernel
theorem dL_report_21 : decode cL_report 21 = .ok (.iconst 1, 1) := by decide +kernel
theorem dL_report_22 : decode cL_report 22 = .ok (.ireturn, 1) := by decide +kernel
theorem dL_evened_0 : decode cL_evened 0 = .ok (.aload_n 3, 1) := by decide +kernel
theorem dL_evened_1 : decode cL_evened 1 = .ok (.iconst 0, 1) := by decide +kernel
theorem dL_evened_2 : decode cL_evened 2 = .ok (.aload_n 0, 1) := by decide +kernel
theorem dL_evened_3 : decode cL_evened 3 = .ok (.iload_n 1, 1) := by decide +kernel
theorem dL_evened_4 : decode cL_evened 4 = .ok (.iload_n 2, 1) := by decide +kernel
theorem dL_evened_5 : decode cL_evened 5 = .ok (.invokevirtual 84, 3) := by decide +kernel
theorem dL_evened_13 : decode cL_evened 13 = .ok (.astore 4, 2) := by decide +kernel
theorem dL_evened_15 : decode cL_evened 15 = .ok (.iconst 1, 1) := by decide +kernel
theorem dL_evened_16 : decode cL_evened 16 = .ok (.ireturn, 1) := by decide +kernel
theorem dL_meet_0 : decode cL_meet 0 = .ok (.aload 4, 2) := by decide +kernel
theorem dL_meet_2 : decode cL_meet 2 = .ok (.iconst 0, 1) := by decide +kernel
theorem dL_meet_3 : decode cL_meet 3 = .ok (.aload_n 0, 1) := by decide +kernel
theorem dL_meet_4 : decode cL_meet 4 = .ok (.iload_n 1, 1) := by decide +kernel
theorem dL_meet_5 : decode cL_meet 5 = .ok (.iload_n 2, 1) := by decide +kernel
theorem dL_meet_6 : decode cL_meet 6 = .ok (.iload_n 3, 1) := by decide +kernel
theorem dL_meet_7 : decode cL_meet 7 = .ok (.invokevirtual 87, 3) := by decide +kernel
theorem dL_meet_15 : decode cL_meet 15 = .ok (.astore 5, 2) := by decide +kernel
theorem dL_meet_17 : decode cL_meet 17 = .ok (.iconst 1, 1) := by decide +kernel
theorem dL_meet_18 : decode cL_meet 18 = .ok (.ireturn, 1) := by decide +kernel
theorem dL_openPoints_0 : decode cL_openPoints 0 = .ok (.aload_n 2, 1) := by decide +kernel
theorem dL_openPoints_1 : decode cL_openPoints 1 = .ok (.iconst 0, 1) := by decide +kernel
theorem dL_openPoints_2 : decode cL_openPoints 2 = .ok (.aload_n 0, 1) := by decide +kernel
theorem dL_openPoints_3 : decode cL_openPoints 3 = .ok (.iload_n 1, 1) := by decide +kernel
theorem dL_openPoints_4 : decode cL_openPoints 4 = .ok (.invokevirtual 90, 3) := by decide +kernel
theorem dL_openPoints_12 : decode cL_openPoints 12 = .ok (.astore_n 3, 1) := by decide +kernel
theorem dL_openPoints_13 : decode cL_openPoints 13 = .ok (.iconst 1, 1) := by decide +kernel
theorem dL_openPoints_14 : decode cL_openPoints 14 = .ok (.ireturn, 1) := by decide +kernel
theorem dL_decide_0 : decode cL_decide 0 = .ok (.aload_n 2, 1) := by decide +kernel
theorem dL_decide_1 : decode cL_decide 1 = .ok (.iconst 0, 1) := by decide +kernel
theorem dL_decide_2 : decode cL_decide 2 = .ok (.aload_n 0, 1) := by decide +kernel
theorem dL_decide_3 : decode cL_decide 3 = .ok (.iload_n 1, 1) := by decide +kernel
theorem dL_decide_4 : decode cL_decide 4 = .ok (.invokevirtual 93, 3) := by decide +kernel
theorem dL_decide_12 : decode cL_decide 12 = .ok (.astore_n 3, 1) := by decide +kernel
theorem dL_decide_13 : decode cL_decide 13 = .ok (.iconst 1, 1) := by decide +kernel
theorem dL_decide_14 : decode cL_decide 14 = .ok (.ireturn, 1) := by decide +kernel
theorem dL_appeal_0 : decode cL_appeal 0 = .ok (.aload_n 2, 1) := by decide +kernel
theorem dL_appeal_1 : decode cL_appeal 1 = .ok (.iconst 0, 1) := by decide +kernel
theorem dL_appeal_2 : decode cL_appeal 2 = .ok (.aload_n 0, 1) := by decide +kernel
theorem dL_appeal_3 : decode cL_appeal 3 = .ok (.iload_n 1, 1) := by decide +kernel
theorem dL_appeal_4 : decode cL_appeal 4 = .ok (.invokevirtual 96, 3) := by decide +kernel
theorem dL_appeal_12 : decode cL_appeal 12 = .ok (.astore_n 3, 1) := by decide +kernel
theorem dL_appeal_13 : decode cL_appeal 13 = .ok (.iconst 1, 1) := by decide +kernel
theorem dL_appeal_14 : decode cL_appeal 14 = .ok (.ireturn, 1) := by decide +kernel
theorem dL_transfer_0 : decode cL_transfer 0 = .ok (.aload_n 3, 1) := by decide +kernel
theorem dL_transfer_1 : decode cL_transfer 1 = .ok (.iconst 0, 1) := by decide +kernel
theorem dL_transfer_2 : decode cL_transfer 2 = .ok (.aload_n 0, 1) := by decide +kernel
theorem dL_transfer_3 : decode cL_transfer 3 = .ok (.iload_n 1, 1) := by decide +kernel
theorem dL_transfer_4 : decode cL_transfer 4 = .ok (.iload_n 2, 1) := by decide +kernel
theorem dL_transfer_5 : decode cL_transfer 5 = .ok (.invokevirtual 99, 3) := by decide +kernel
theorem dL_transfer_13 : decode cL_transfer 13 = .ok (.astore 4, 2) := by decide +kernel
theorem dL_transfer_15 : decode cL_transfer 15 = .ok (.iconst 1, 1) := by decide +kernel
theorem dL_transfer_16 : decode cL_transfer 16 = .ok (.ireturn, 1) := by decide +kernel
theorem dL_showAhead_0 : decode cL_showAhead 0 = .ok (.aload_n 2, 1) := by decide +kernel
theorem dL_showAhead_1 : decode cL_showAhead 1 = .ok (.iconst 0, 1) := by decide +kernel
theorem dL_showAhead_2 : decode cL_showAhead 2 = .ok (.aload_n 0, 1) := by decide +kernel
theorem dL_showAhead_3 : decode cL_showAhead 3 = .ok (.iload_n 1, 1) := by decide +kernel
theorem dL_showAhead_4 : decode cL_showAhead 4 = .ok (.invokevirtual 102, 3) := by decide +kernel
theorem dL_showAhead_12 : decode cL_showAhead 12 = .ok (.astore_n 3, 1) := by decide +kernel
theorem dL_showAhead_13 : decode cL_showAhead 13 = .ok (.iconst 1, 1) := by decide +kernel
theorem dL_showAhead_14 : decode cL_showAhead 14 = .ok (.ireturn, 1) := by decide +kernel
theorem dL_priority_0 : decode cL_priority 0 = .ok (.aload_n 2, 1) := by decide +kernel
theorem dL_priority_1 : decode cL_priority 1 = .ok (.iconst 0, 1) := by decide +kernel
theorem dL_priority_2 : decode cL_priority 2 = .ok (.aload_n 0, 1) := by decide +kernel
theorem dL_priority_3 : decode cL_priority 3 = .ok (.iload_n 1, 1) := by decide +kernel
theorem dL_priority_4 : decode cL_priority 4 = .ok (.invokevirtual 105, 3) := by decide +kernel
theorem dL_priority_12 : decode cL_priority 12 = .ok (.astore_n 3, 1) := by decide +kernel
theorem dL_priority_13 : decode cL_priority 13 = .ok (.iconst 1, 1) := by decide +kernel
theorem dL_priority_14 : decode cL_priority 14 = .ok (.ireturn, 1) := by decide +kernel
theorem dL_embargo_0 : decode cL_embargo 0 = .ok (.aload_n 3, 1) := by decide +kernel
theorem dL_embargo_1 : decode cL_embargo 1 = .ok (.iconst 0, 1) := by decide +kernel
theorem dL_embargo_2 : decode cL_embargo 2 = .ok (.aload_n 0, 1) := by decide +kernel
theorem dL_embargo_3 : decode cL_embargo 3 = .ok (.iload_n 1, 1) := by decide +kernel
theorem dL_embargo_4 : decode cL_embargo 4 = .ok (.iload_n 2, 1) := by decide +kernel
theorem dL_embargo_5 : decode cL_embargo 5 = .ok (.invokevirtual 108, 3) := by decide +kernel
theorem dL_embargo_13 : decode cL_embargo 13 = .ok (.astore 4, 2) := by decide +kernel
theorem dL_embargo_15 : decode cL_embargo 15 = .ok (.iconst 1, 1) := by decide +kernel
theorem dL_embargo_16 : decode cL_embargo 16 = .ok (.ireturn, 1) := by decide +kernel
theorem dL_publish_0 : decode cL_publish 0 = .ok (.aload_n 2, 1) := by decide +kernel
theorem dL_publish_1 : decode cL_publish 1 = .ok (.iconst 0, 1) := by decide +kernel
theorem dL_publish_2 : decode cL_publish 2 = .ok (.aload_n 0, 1) := by decide +kernel
theorem dL_publish_3 : decode cL_publish 3 = .ok (.iload_n 1, 1) := by decide +kernel
theorem dL_publish_4 : decode cL_publish 4 = .ok (.invokevirtual 111, 3) := by decide +kernel
theorem dL_publish_12 : decode cL_publish 12 = .ok (.astore_n 3, 1) := by decide +kernel
theorem dL_publish_13 : decode cL_publish 13 = .ok (.iconst 1, 1) := by decide +kernel
theorem dL_publish_14 : decode cL_publish 14 = .ok (.ireturn, 1) := by decide +kernel
theorem dL_cite_0 : decode cL_cite 0 = .ok (.aload_n 3, 1) := by decide +kernel
theorem dL_cite_1 : decode cL_cite 1 = .ok (.iconst 0, 1) := by decide +kernel
theorem dL_cite_2 : decode cL_cite 2 = .ok (.aload_n 0, 1) := by decide +kernel
theorem dL_cite_3 : decode cL_cite 3 = .ok (.iload_n 1, 1) := by decide +kernel
theorem dL_cite_4 : decode cL_cite 4 = .ok (.iload_n 2, 1) := by decide +kernel
theorem dL_cite_5 : decode cL_cite 5 = .ok (.invokevirtual 114, 3) := by decide +kernel
theorem dL_cite_13 : decode cL_cite 13 = .ok (.astore 4, 2) := by decide +kernel
theorem dL_cite_15 : decode cL_cite 15 = .ok (.iconst 1, 1) := by decide +kernel
theorem dL_cite_16 : decode cL_cite 16 = .ok (.ireturn, 1) := by decide +kernel
theorem dL_retract_0 : decode cL_retract 0 = .ok (.aload_n 2, 1) := by decide +kernel
theorem dL_retract_1 : decode cL_retract 1 = .ok (.iconst 0, 1) := by decide +kernel
theorem dL_retract_2 : decode cL_retract 2 = .ok (.aload_n 0, 1) := by decide +kernel
theorem dL_retract_3 : decode cL_retract 3 = .ok (.iload_n 1, 1) := by decide +kernel
theorem dL_retract_4 : decode cL_retract 4 = .ok (.invokevirtual 117, 3) := by decide +kernel
theorem dL_retract_12 : decode cL_retract 12 = .ok (.astore_n 3, 1) := by decide +kernel
theorem dL_retract_13 : decode cL_retract 13 = .ok (.iconst 1, 1) := by decide +kernel
theorem dL_retract_14 : decode cL_retract 14 = .ok (.ireturn, 1) := by decide +kernel
theorem dL_hasConcern_0 : decode cL_hasConcern 0 = .ok (.aload_n 2, 1) := by decide +kernel
theorem dL_hasConcern_1 : decode cL_hasConcern 1 = .ok (.iconst 0, 1) := by decide +kernel
theorem dL_hasConcern_2 : decode cL_hasConcern 2 = .ok (.aload_n 0, 1) := by decide +kernel
theorem dL_hasConcern_3 : decode cL_hasConcern 3 = .ok (.iload_n 1, 1) := by decide +kernel
theorem dL_hasConcern_4 : decode cL_hasConcern 4 = .ok (.invokevirtual 120, 3) := by decide +kernel
theorem dL_hasConcern_19 : decode cL_hasConcern 19 = .ok (.astore_n 3, 1) := by decide +kernel
theorem dL_hasConcern_20 : decode cL_hasConcern 20 = .ok (.iconst 1, 1) := by decide +kernel
theorem dL_hasConcern_21 : decode cL_hasConcern 21 = .ok (.ireturn, 1) := by decide +kernel
theorem dL_step_0 : decode cL_step 0 = .ok (.aload 4, 2) := by decide +kernel
theorem dL_step_2 : decode cL_step 2 = .ok (.iconst 0, 1) := by decide +kernel
theorem dL_step_3 : decode cL_step 3 = .ok (.aload_n 0, 1) := by decide +kernel
theorem dL_step_4 : decode cL_step 4 = .ok (.iload_n 1, 1) := by decide +kernel
theorem dL_step_5 : decode cL_step 5 = .ok (.iload_n 2, 1) := by decide +kernel
theorem dL_step_6 : decode cL_step 6 = .ok (.iload_n 3, 1) := by decide +kernel
theorem dL_step_7 : decode cL_step 7 = .ok (.invokevirtual 124, 3) := by decide +kernel
theorem dL_step_15 : decode cL_step 15 = .ok (.astore 5, 2) := by decide +kernel
theorem dL_step_17 : decode cL_step 17 = .ok (.iconst 1, 1) := by decide +kernel
theorem dL_step_18 : decode cL_step 18 = .ok (.ireturn, 1) := by decide +kernel
theorem dL_claim_0 : decode cL_claim 0 = .ok (.aload_n 3, 1) := by decide +kernel
theorem dL_claim_1 : decode cL_claim 1 = .ok (.iconst 0, 1) := by decide +kernel
theorem dL_claim_2 : decode cL_claim 2 = .ok (.aload_n 0, 1) := by decide +kernel
theorem dL_claim_3 : decode cL_claim 3 = .ok (.iload_n 1, 1) := by decide +kernel
theorem dL_claim_4 : decode cL_claim 4 = .ok (.iload_n 2, 1) := by decide +kernel
theorem dL_claim_5 : decode cL_claim 5 = .ok (.invokevirtual 128, 3) := by decide +kernel
theorem dL_claim_13 : decode cL_claim 13 = .ok (.astore 4, 2) := by decide +kernel
theorem dL_claim_15 : decode cL_claim 15 = .ok (.iconst 1, 1) := by decide +kernel
theorem dL_claim_16 : decode cL_claim 16 = .ok (.ireturn, 1) := by decide +kernel
theorem dL_isRight_0 : decode cL_isRight 0 = .ok (.aload_n 2, 1) := by decide +kernel
theorem dL_isRight_1 : decode cL_isRight 1 = .ok (.iconst 0, 1) := by decide +kernel
theorem dL_isRight_2 : decode cL_isRight 2 = .ok (.aload_n 0, 1) := by decide +kernel
theorem dL_isRight_3 : decode cL_isRight 3 = .ok (.iload_n 1, 1) := by decide +kernel
theorem dL_isRight_4 : decode cL_isRight 4 = .ok (.invokevirtual 131, 3) := by decide +kernel
theorem dL_isRight_19 : decode cL_isRight 19 = .ok (.astore_n 3, 1) := by decide +kernel
theorem dL_isRight_20 : decode cL_isRight 20 = .ok (.iconst 1, 1) := by decide +kernel
theorem dL_isRight_21 : decode cL_isRight 21 = .ok (.ireturn, 1) := by decide +kernel
theorem dL_likeness_0 : decode cL_likeness 0 = .ok (.aload_n 3, 1) := by decide +kernel
theorem dL_likeness_1 : decode cL_likeness 1 = .ok (.iconst 0, 1) := by decide +kernel
theorem dL_likeness_2 : decode cL_likeness 2 = .ok (.aload_n 0, 1) := by decide +kernel
theorem dL_likeness_3 : decode cL_likeness 3 = .ok (.iload_n 1, 1) := by decide +kernel
theorem dL_likeness_4 : decode cL_likeness 4 = .ok (.iload_n 2, 1) := by decide +kernel
theorem dL_likeness_5 : decode cL_likeness 5 = .ok (.invokevirtual 134, 3) := by decide +kernel
theorem dL_likeness_13 : decode cL_likeness 13 = .ok (.astore 4, 2) := by decide +kernel
theorem dL_likeness_15 : decode cL_likeness 15 = .ok (.iconst 1, 1) := by decide +kernel
theorem dL_likeness_16 : decode cL_likeness 16 = .ok (.ireturn, 1) := by decide +kernel
theorem dL_tellMoney_0 : decode cL_tellMoney 0 = .ok (.aload 4, 2) := by decide +kernel
theorem dL_tellMoney_2 : decode cL_tellMoney 2 = .ok (.iconst 0, 1) := by decide +kernel
theorem dL_tellMoney_3 : decode cL_tellMoney 3 = .ok (.aload_n 0, 1) := by decide +kernel
theorem dL_tellMoney_4 : decode cL_tellMoney 4 = .ok (.iload_n 1, 1) := by decide +kernel
theorem dL_tellMoney_5 : decode cL_tellMoney 5 = .ok (.iload_n 2, 1) := by decide +kernel
theorem dL_tellMoney_6 : decode cL_tellMoney 6 = .ok (.iload_n 3, 1) := by decide +kernel
theorem dL_tellMoney_7 : decode cL_tellMoney 7 = .ok (.invokevirtual 137, 3) := by decide +kernel
theorem dL_tellMoney_15 : decode cL_tellMoney 15 = .ok (.astore 5, 2) := by decide +kernel
theorem dL_tellMoney_17 : decode cL_tellMoney 17 = .ok (.iconst 1, 1) := by decide +kernel
theorem dL_tellMoney_18 : decode cL_tellMoney 18 = .ok (.ireturn, 1) := by decide +kernel
theorem dL_move_0 : decode cL_move 0 = .ok (.aload_n 3, 1) := by decide +kernel
theorem dL_move_1 : decode cL_move 1 = .ok (.iconst 0, 1) := by decide +kernel
theorem dL_move_2 : decode cL_move 2 = .ok (.aload_n 0, 1) := by decide +kernel
theorem dL_move_3 : decode cL_move 3 = .ok (.iload_n 1, 1) := by decide +kernel
theorem dL_move_4 : decode cL_move 4 = .ok (.iload_n 2, 1) := by decide +kernel
theorem dL_move_5 : decode cL_move 5 = .ok (.invokevirtual 140, 3) := by decide +kernel
theorem dL_move_13 : decode cL_move 13 = .ok (.astore 4, 2) := by decide +kernel
theorem dL_move_15 : decode cL_move 15 = .ok (.iconst 1, 1) := by decide +kernel
theorem dL_move_16 : decode cL_move 16 = .ok (.ireturn, 1) := by decide +kernel
theorem dL_alarm_0 : decode cL_alarm 0 = .ok (.aload_n 3, 1) := by decide +kernel
theorem dL_alarm_1 : decode cL_alarm 1 = .ok (.iconst 0, 1) := by decide +kernel
theorem dL_alarm_2 : decode cL_alarm 2 = .ok (.aload_n 0, 1) := by decide +kernel
theorem dL_alarm_3 : decode cL_alarm 3 = .ok (.iload_n 1, 1) := by decide +kernel
theorem dL_alarm_4 : decode cL_alarm 4 = .ok (.iload_n 2, 1) := by decide +kernel
theorem dL_alarm_5 : decode cL_alarm 5 = .ok (.invokevirtual 147, 3) := by decide +kernel
theorem dL_alarm_20 : decode cL_alarm 20 = .ok (.astore 4, 2) := by decide +kernel
theorem dL_alarm_22 : decode cL_alarm 22 = .ok (.iconst 1, 1) := by decide +kernel
theorem dL_alarm_23 : decode cL_alarm 23 = .ok (.ireturn, 1) := by decide +kernel
theorem dL_equalTo_0 : decode cL_equalTo 0 = .ok (.aload_n 2, 1) := by decide +kernel
theorem dL_equalTo_1 : decode cL_equalTo 1 = .ok (.iconst 0, 1) := by decide +kernel
theorem dL_equalTo_2 : decode cL_equalTo 2 = .ok (.aload_n 0, 1) := by decide +kernel
theorem dL_equalTo_3 : decode cL_equalTo 3 = .ok (.iload_n 1, 1) := by decide +kernel
theorem dL_equalTo_4 : decode cL_equalTo 4 = .ok (.invokevirtual 150, 3) := by decide +kernel
theorem dL_equalTo_12 : decode cL_equalTo 12 = .ok (.astore_n 3, 1) := by decide +kernel
theorem dL_equalTo_13 : decode cL_equalTo 13 = .ok (.iconst 1, 1) := by decide +kernel
theorem dL_equalTo_14 : decode cL_equalTo 14 = .ok (.ireturn, 1) := by decide +kernel
theorem dL_complain_0 : decode cL_complain 0 = .ok (.aload_n 3, 1) := by decide +kernel
theorem dL_complain_1 : decode cL_complain 1 = .ok (.iconst 0, 1) := by decide +kernel
theorem dL_complain_2 : decode cL_complain 2 = .ok (.aload_n 0, 1) := by decide +kernel
theorem dL_complain_3 : decode cL_complain 3 = .ok (.iload_n 1, 1) := by decide +kernel
theorem dL_complain_4 : decode cL_complain 4 = .ok (.iload_n 2, 1) := by decide +kernel
theorem dL_complain_5 : decode cL_complain 5 = .ok (.invokevirtual 153, 3) := by decide +kernel
theorem dL_complain_13 : decode cL_complain 13 = .ok (.astore 4, 2) := by decide +kernel
theorem dL_complain_15 : decode cL_complain 15 = .ok (.iconst 1, 1) := by decide +kernel
theorem dL_complain_16 : decode cL_complain 16 = .ok (.ireturn, 1) := by decide +kernel
theorem dL_seat_0 : decode cL_seat 0 = .ok (.aload_n 2, 1) := by decide +kernel
theorem dL_seat_1 : decode cL_seat 1 = .ok (.iconst 0, 1) := by decide +kernel
theorem dL_seat_2 : decode cL_seat 2 = .ok (.aload_n 0, 1) := by decide +kernel
theorem dL_seat_3 : decode cL_seat 3 = .ok (.iload_n 1, 1) := by decide +kernel
theorem dL_seat_4 : decode cL_seat 4 = .ok (.invokevirtual 156, 3) := by decide +kernel
theorem dL_seat_12 : decode cL_seat 12 = .ok (.astore_n 3, 1) := by decide +kernel
theorem dL_seat_13 : decode cL_seat 13 = .ok (.iconst 1, 1) := by decide +kernel
theorem dL_seat_14 : decode cL_seat 14 = .ok (.ireturn, 1) := by decide +kernel
theorem dL_vote_0 : decode cL_vote 0 = .ok (.aload 4, 2) := by decide +kernel
theorem dL_vote_2 : decode cL_vote 2 = .ok (.iconst 0, 1) := by decide +kernel
theorem dL_vote_3 : decode cL_vote 3 = .ok (.aload_n 0, 1) := by decide +kernel
theorem dL_vote_4 : decode cL_vote 4 = .ok (.iload_n 1, 1) := by decide +kernel
theorem dL_vote_5 : decode cL_vote 5 = .ok (.iload_n 2, 1) := by decide +kernel
theorem dL_vote_6 : decode cL_vote 6 = .ok (.iload_n 3, 1) := by decide +kernel
theorem dL_vote_7 : decode cL_vote 7 = .ok (.invokevirtual 159, 3) := by decide +kernel
theorem dL_vote_15 : decode cL_vote 15 = .ok (.astore 5, 2) := by decide +kernel
theorem dL_vote_17 : decode cL_vote 17 = .ok (.iconst 1, 1) := by decide +kernel
theorem dL_vote_18 : decode cL_vote 18 = .ok (.ireturn, 1) := by decide +kernel
theorem dL_sees_0 : decode cL_sees 0 = .ok (.aload 4, 2) := by decide +kernel
theorem dL_sees_2 : decode cL_sees 2 = .ok (.iconst 0, 1) := by decide +kernel
theorem dL_sees_3 : decode cL_sees 3 = .ok (.aload_n 0, 1) := by decide +kernel
theorem dL_sees_4 : decode cL_sees 4 = .ok (.iload_n 1, 1) := by decide +kernel
theorem dL_sees_5 : decode cL_sees 5 = .ok (.iload_n 2, 1) := by decide +kernel
theorem dL_sees_6 : decode cL_sees 6 = .ok (.iload_n 3, 1) := by decide +kernel
theorem dL_sees_7 : decode cL_sees 7 = .ok (.invokevirtual 163, 3) := by decide +kernel
theorem dL_sees_22 : decode cL_sees 22 = .ok (.astore 5, 2) := by decide +kernel
theorem dL_sees_24 : decode cL_sees 24 = .ok (.iconst 1, 1) := by decide +kernel
theorem dL_sees_25 : decode cL_sees 25 = .ok (.ireturn, 1) := by decide +kernel
theorem dL_correct_0 : decode cL_correct 0 = .ok (.aload_n 3, 1) := by decide +kernel
theorem dL_correct_1 : decode cL_correct 1 = .ok (.iconst 0, 1) := by decide +kernel
theorem dL_correct_2 : decode cL_correct 2 = .ok (.aload_n 0, 1) := by decide +kernel
theorem dL_correct_3 : decode cL_correct 3 = .ok (.iload_n 1, 1) := by decide +kernel
theorem dL_correct_4 : decode cL_correct 4 = .ok (.iload_n 2, 1) := by decide +kernel
theorem dL_correct_5 : decode cL_correct 5 = .ok (.invokevirtual 167, 3) := by decide +kernel
theorem dL_correct_13 : decode cL_correct 13 = .ok (.astore 4, 2) := by decide +kernel
theorem dL_correct_15 : decode cL_correct 15 = .ok (.iconst 1, 1) := by decide +kernel
theorem dL_correct_16 : decode cL_correct 16 = .ok (.ireturn, 1) := by decide +kernel
theorem dL_dropCitation_0 : decode cL_dropCitation 0 = .ok (.aload_n 3, 1) := by decide +kernel
theorem dL_dropCitation_1 : decode cL_dropCitation 1 = .ok (.iconst 0, 1) := by decide +kernel
theorem dL_dropCitation_2 : decode cL_dropCitation 2 = .ok (.aload_n 0, 1) := by decide +kernel
theorem dL_dropCitation_3 : decode cL_dropCitation 3 = .ok (.iload_n 1, 1) := by decide +kernel
theorem dL_dropCitation_4 : decode cL_dropCitation 4 = .ok (.iload_n 2, 1) := by decide +kernel
theorem dL_dropCitation_5 : decode cL_dropCitation 5 = .ok (.invokevirtual 170, 3) := by decide +kernel
theorem dL_dropCitation_13 : decode cL_dropCitation 13 = .ok (.astore 4, 2) := by decide +kernel
theorem dL_dropCitation_15 : decode cL_dropCitation 15 = .ok (.iconst 1, 1) := by decide +kernel
theorem dL_dropCitation_16 : decode cL_dropCitation 16 = .ok (.ireturn, 1) := by decide +kernel
theorem dL_publicVersion_0 : decode cL_publicVersion 0 = .ok (.aload_n 2, 1) := by decide +kernel
theorem dL_publicVersion_1 : decode cL_publicVersion 1 = .ok (.iconst 0, 1) := by decide +kernel
theorem dL_publicVersion_2 : decode cL_publicVersion 2 = .ok (.aload_n 0, 1) := by decide +kernel
theorem dL_publicVersion_3 : decode cL_publicVersion 3 = .ok (.iload_n 1, 1) := by decide +kernel
theorem dL_publicVersion_4 : decode cL_publicVersion 4 = .ok (.invokevirtual 173, 3) := by decide +kernel
theorem dL_publicVersion_12 : decode cL_publicVersion 12 = .ok (.astore_n 3, 1) := by decide +kernel
theorem dL_publicVersion_13 : decode cL_publicVersion 13 = .ok (.iconst 1, 1) := by decide +kernel
theorem dL_publicVersion_14 : decode cL_publicVersion 14 = .ok (.ireturn, 1) := by decide +kernel
theorem dL_index_0 : decode cL_index 0 = .ok (.aload_n 2, 1) := by decide +kernel
theorem dL_index_1 : decode cL_index 1 = .ok (.iconst 0, 1) := by decide +kernel
theorem dL_index_2 : decode cL_index 2 = .ok (.aload_n 0, 1) := by decide +kernel
theorem dL_index_3 : decode cL_index 3 = .ok (.iload_n 1, 1) := by decide +kernel
theorem dL_index_4 : decode cL_index 4 = .ok (.invokevirtual 176, 3) := by decide +kernel
theorem dL_index_12 : decode cL_index 12 = .ok (.astore_n 3, 1) := by decide +kernel
theorem dL_index_13 : decode cL_index 13 = .ok (.iconst 1, 1) := by decide +kernel
theorem dL_index_14 : decode cL_index 14 = .ok (.ireturn, 1) := by decide +kernel
theorem dL_circle_0 : decode cL_circle 0 = .ok (.aload_n 2, 1) := by decide +kernel
theorem dL_circle_1 : decode cL_circle 1 = .ok (.iconst 0, 1) := by decide +kernel
theorem dL_circle_2 : decode cL_circle 2 = .ok (.aload_n 0, 1) := by decide +kernel
theorem dL_circle_3 : decode cL_circle 3 = .ok (.iload_n 1, 1) := by decide +kernel
theorem dL_circle_4 : decode cL_circle 4 = .ok (.invokevirtual 185, 3) := by decide +kernel
theorem dL_circle_12 : decode cL_circle 12 = .ok (.astore_n 3, 1) := by decide +kernel
theorem dL_circle_13 : decode cL_circle 13 = .ok (.iconst 1, 1) := by decide +kernel
theorem dL_circle_14 : decode cL_circle 14 = .ok (.ireturn, 1) := by decide +kernel
theorem dL_state_0 : decode cL_state 0 = .ok (.aload_n 2, 1) := by decide +kernel
theorem dL_state_1 : decode cL_state 1 = .ok (.iconst 0, 1) := by decide +kernel
theorem dL_state_2 : decode cL_state 2 = .ok (.aload_n 0, 1) := by decide +kernel
theorem dL_state_3 : decode cL_state 3 = .ok (.iload_n 1, 1) := by decide +kernel
theorem dL_state_4 : decode cL_state 4 = .ok (.invokevirtual 188, 3) := by decide +kernel
theorem dL_state_12 : decode cL_state 12 = .ok (.astore_n 3, 1) := by decide +kernel
theorem dL_state_13 : decode cL_state 13 = .ok (.iconst 1, 1) := by decide +kernel
theorem dL_state_14 : decode cL_state 14 = .ok (.ireturn, 1) := by decide +kernel
theorem dL_letters_0 : decode cL_letters 0 = .ok (.aload_n 2, 1) := by decide +kernel
theorem dL_letters_1 : decode cL_letters 1 = .ok (.iconst 0, 1) := by decide +kernel
theorem dL_letters_2 : decode cL_letters 2 = .ok (.aload_n 0, 1) := by decide +kernel
theorem dL_letters_3 : decode cL_letters 3 = .ok (.iload_n 1, 1) := by decide +kernel
theorem dL_letters_4 : decode cL_letters 4 = .ok (.invokevirtual 191, 3) := by decide +kernel
theorem dL_letters_12 : decode cL_letters 12 = .ok (.astore_n 3, 1) := by decide +kernel
theorem dL_letters_13 : decode cL_letters 13 = .ok (.iconst 1, 1) := by decide +kernel
theorem dL_letters_14 : decode cL_letters 14 = .ok (.ireturn, 1) := by decide +kernel
theorem dL_letter_0 : decode cL_letter 0 = .ok (.aload_n 3, 1) := by decide +kernel
theorem dL_letter_1 : decode cL_letter 1 = .ok (.iconst 0, 1) := by decide +kernel
theorem dL_letter_2 : decode cL_letter 2 = .ok (.aload_n 0, 1) := by decide +kernel
theorem dL_letter_3 : decode cL_letter 3 = .ok (.iload_n 1, 1) := by decide +kernel
theorem dL_letter_4 : decode cL_letter 4 = .ok (.iload_n 2, 1) := by decide +kernel
theorem dL_letter_5 : decode cL_letter 5 = .ok (.invokevirtual 194, 3) := by decide +kernel
theorem dL_letter_13 : decode cL_letter 13 = .ok (.astore 4, 2) := by decide +kernel
theorem dL_letter_15 : decode cL_letter 15 = .ok (.iconst 1, 1) := by decide +kernel
theorem dL_letter_16 : decode cL_letter 16 = .ok (.ireturn, 1) := by decide +kernel
theorem dL_acceptedShare_0 : decode cL_acceptedShare 0 = .ok (.aload_n 1, 1) := by decide +kernel
theorem dL_acceptedShare_1 : decode cL_acceptedShare 1 = .ok (.iconst 0, 1) := by decide +kernel
theorem dL_acceptedShare_2 : decode cL_acceptedShare 2 = .ok (.aload_n 0, 1) := by decide +kernel
theorem dL_acceptedShare_3 : decode cL_acceptedShare 3 = .ok (.invokevirtual 200, 3) := by decide +kernel
theorem dL_acceptedShare_11 : decode cL_acceptedShare 11 = .ok (.astore_n 2, 1) := by decide +kernel
theorem dL_acceptedShare_12 : decode cL_acceptedShare 12 = .ok (.iconst 1, 1) := by decide +kernel
theorem dL_acceptedShare_13 : decode cL_acceptedShare 13 = .ok (.ireturn, 1) := by decide +kernel
theorem dL_meanScore_0 : decode cL_meanScore 0 = .ok (.aload_n 1, 1) := by decide +kernel
theorem dL_meanScore_1 : decode cL_meanScore 1 = .ok (.iconst 0, 1) := by decide +kernel
theorem dL_meanScore_2 : decode cL_meanScore 2 = .ok (.aload_n 0, 1) := by decide +kernel
theorem dL_meanScore_3 : decode cL_meanScore 3 = .ok (.invokevirtual 204, 3) := by decide +kernel
theorem dL_meanScore_10 : decode cL_meanScore 10 = .ok (.astore_n 2, 1) := by decide +kernel
theorem dL_meanScore_11 : decode cL_meanScore 11 = .ok (.iconst 1, 1) := by decide +kernel
theorem dL_meanScore_12 : decode cL_meanScore 12 = .ok (.ireturn, 1) := by decide +kernel
theorem dL_addPerson_0 : decode cL_addPerson 0 = .ok (.aload_n 3, 1) := by decide +kernel
theorem dL_addPerson_1 : decode cL_addPerson 1 = .ok (.iconst 0, 1) := by decide +kernel
theorem dL_addPerson_2 : decode cL_addPerson 2 = .ok (.aload_n 0, 1) := by decide +kernel
theorem dL_addPerson_3 : decode cL_addPerson 3 = .ok (.iload_n 1, 1) := by decide +kernel
theorem dL_addPerson_4 : decode cL_addPerson 4 = .ok (.iload_n 2, 1) := by decide +kernel
theorem dL_addPerson_5 : decode cL_addPerson 5 = .ok (.invokevirtual 7, 3) := by decide +kernel
theorem dL_addPerson_13 : decode cL_addPerson 13 = .ok (.astore 4, 2) := by decide +kernel
theorem dL_addPerson_15 : decode cL_addPerson 15 = .ok (.iconst 1, 1) := by decide +kernel
theorem dL_addPerson_16 : decode cL_addPerson 16 = .ok (.ireturn, 1) := by decide +kernel
theorem dL_addPerson_8 : decode cL_addPerson 8 = .ok (.i2l, 1) := by decide +kernel
theorem dL_addPerson_9 : decode cL_addPerson 9 = .ok (.lastore, 1) := by decide +kernel
theorem dL_addPerson_10 : decode cL_addPerson 10 = .ok (.goto 11, 3) := by decide +kernel
theorem dL_addPerson_21 : decode cL_addPerson 21 = .ok (.iconst 0, 1) := by decide +kernel
theorem dL_addPerson_22 : decode cL_addPerson 22 = .ok (.ireturn, 1) := by decide +kernel
theorem dL_tie_0 : decode cL_tie 0 = .ok (.aload_n 3, 1) := by decide +kernel
theorem dL_tie_1 : decode cL_tie 1 = .ok (.iconst 0, 1) := by decide +kernel
theorem dL_tie_2 : decode cL_tie 2 = .ok (.aload_n 0, 1) := by decide +kernel
theorem dL_tie_3 : decode cL_tie 3 = .ok (.iload_n 1, 1) := by decide +kernel
theorem dL_tie_4 : decode cL_tie 4 = .ok (.iload_n 2, 1) := by decide +kernel
theorem dL_tie_5 : decode cL_tie 5 = .ok (.invokevirtual 32, 3) := by decide +kernel
theorem dL_tie_20 : decode cL_tie 20 = .ok (.astore 4, 2) := by decide +kernel
theorem dL_tie_22 : decode cL_tie 22 = .ok (.iconst 1, 1) := by decide +kernel
theorem dL_tie_23 : decode cL_tie 23 = .ok (.ireturn, 1) := by decide +kernel
theorem dL_tie_8 : decode cL_tie 8 = .ok (.ifCond .eq 7, 3) := by decide +kernel
theorem dL_tie_11 : decode cL_tie 11 = .ok (.lconst 1, 1) := by decide +kernel
theorem dL_tie_12 : decode cL_tie 12 = .ok (.goto 4, 3) := by decide +kernel
theorem dL_tie_16 : decode cL_tie 16 = .ok (.lastore, 1) := by decide +kernel
theorem dL_tie_17 : decode cL_tie 17 = .ok (.goto 7, 3) := by decide +kernel
theorem dL_tie_24 : decode cL_tie 24 = .ok (.iconst 0, 1) := by decide +kernel
theorem dL_tie_25 : decode cL_tie 25 = .ok (.ireturn, 1) := by decide +kernel
theorem dL_distance_0 : decode cL_distance 0 = .ok (.aload_n 3, 1) := by decide +kernel
theorem dL_distance_1 : decode cL_distance 1 = .ok (.iconst 0, 1) := by decide +kernel
theorem dL_distance_2 : decode cL_distance 2 = .ok (.aload_n 0, 1) := by decide +kernel
theorem dL_distance_3 : decode cL_distance 3 = .ok (.iload_n 1, 1) := by decide +kernel
theorem dL_distance_4 : decode cL_distance 4 = .ok (.iload_n 2, 1) := by decide +kernel
theorem dL_distance_5 : decode cL_distance 5 = .ok (.invokevirtual 35, 3) := by decide +kernel
theorem dL_distance_13 : decode cL_distance 13 = .ok (.astore 4, 2) := by decide +kernel
theorem dL_distance_15 : decode cL_distance 15 = .ok (.iconst 1, 1) := by decide +kernel
theorem dL_distance_16 : decode cL_distance 16 = .ok (.ireturn, 1) := by decide +kernel
theorem dL_distance_8 : decode cL_distance 8 = .ok (.i2l, 1) := by decide +kernel
theorem dL_distance_9 : decode cL_distance 9 = .ok (.lastore, 1) := by decide +kernel
theorem dL_distance_10 : decode cL_distance 10 = .ok (.goto 7, 3) := by decide +kernel
theorem dL_distance_17 : decode cL_distance 17 = .ok (.iconst 0, 1) := by decide +kernel
theorem dL_distance_18 : decode cL_distance 18 = .ok (.ireturn, 1) := by decide +kernel
theorem dL_setRules_0 : decode cL_setRules 0 = .ok (.aload 6, 2) := by decide +kernel
theorem dL_setRules_2 : decode cL_setRules 2 = .ok (.iconst 0, 1) := by decide +kernel
theorem dL_setRules_3 : decode cL_setRules 3 = .ok (.aload_n 0, 1) := by decide +kernel
theorem dL_setRules_4 : decode cL_setRules 4 = .ok (.iload_n 1, 1) := by decide +kernel
theorem dL_setRules_5 : decode cL_setRules 5 = .ok (.iload_n 2, 1) := by decide +kernel
theorem dL_setRules_6 : decode cL_setRules 6 = .ok (.iload_n 3, 1) := by decide +kernel
theorem dL_setRules_7 : decode cL_setRules 7 = .ok (.iload 4, 2) := by decide +kernel
theorem dL_setRules_9 : decode cL_setRules 9 = .ok (.iload 5, 2) := by decide +kernel
theorem dL_setRules_11 : decode cL_setRules 11 = .ok (.invokevirtual 143, 3) := by decide +kernel
theorem dL_setRules_19 : decode cL_setRules 19 = .ok (.astore 7, 2) := by decide +kernel
theorem dL_setRules_21 : decode cL_setRules 21 = .ok (.iconst 1, 1) := by decide +kernel
theorem dL_setRules_22 : decode cL_setRules 22 = .ok (.ireturn, 1) := by decide +kernel
theorem dL_setRules_14 : decode cL_setRules 14 = .ok (.i2l, 1) := by decide +kernel
theorem dL_setRules_15 : decode cL_setRules 15 = .ok (.lastore, 1) := by decide +kernel
theorem dL_setRules_16 : decode cL_setRules 16 = .ok (.goto 7, 3) := by decide +kernel
theorem dL_setRules_23 : decode cL_setRules 23 = .ok (.iconst 0, 1) := by decide +kernel
theorem dL_setRules_24 : decode cL_setRules 24 = .ok (.ireturn, 1) := by decide +kernel
theorem dL_goOn_0 : decode cL_goOn 0 = .ok (.aload_n 2, 1) := by decide +kernel
theorem dL_goOn_1 : decode cL_goOn 1 = .ok (.iconst 0, 1) := by decide +kernel
theorem dL_goOn_2 : decode cL_goOn 2 = .ok (.aload_n 0, 1) := by decide +kernel
theorem dL_goOn_3 : decode cL_goOn 3 = .ok (.iload_n 1, 1) := by decide +kernel
theorem dL_goOn_4 : decode cL_goOn 4 = .ok (.invokevirtual 197, 3) := by decide +kernel
theorem dL_goOn_12 : decode cL_goOn 12 = .ok (.astore_n 3, 1) := by decide +kernel
theorem dL_goOn_13 : decode cL_goOn 13 = .ok (.iconst 1, 1) := by decide +kernel
theorem dL_goOn_14 : decode cL_goOn 14 = .ok (.ireturn, 1) := by decide +kernel
theorem dL_goOn_7 : decode cL_goOn 7 = .ok (.i2l, 1) := by decide +kernel
theorem dL_goOn_8 : decode cL_goOn 8 = .ok (.lastore, 1) := by decide +kernel
theorem dL_goOn_9 : decode cL_goOn 9 = .ok (.goto 6, 3) := by decide +kernel
theorem dL_goOn_15 : decode cL_goOn 15 = .ok (.iconst 0, 1) := by decide +kernel
theorem dL_goOn_16 : decode cL_goOn 16 = .ok (.ireturn, 1) := by decide +kernel
theorem dL_fieldIndex_0 : decode cL_fieldIndex 0 = .ok (.aload_n 3, 1) := by decide +kernel
theorem dL_fieldIndex_1 : decode cL_fieldIndex 1 = .ok (.iconst 0, 1) := by decide +kernel
theorem dL_fieldIndex_2 : decode cL_fieldIndex 2 = .ok (.aload_n 0, 1) := by decide +kernel
theorem dL_fieldIndex_3 : decode cL_fieldIndex 3 = .ok (.iload_n 1, 1) := by decide +kernel
theorem dL_fieldIndex_4 : decode cL_fieldIndex 4 = .ok (.iload_n 2, 1) := by decide +kernel
theorem dL_fieldIndex_5 : decode cL_fieldIndex 5 = .ok (.invokevirtual 179, 3) := by decide +kernel
theorem dL_fieldIndex_13 : decode cL_fieldIndex 13 = .ok (.astore 4, 2) := by decide +kernel
theorem dL_fieldIndex_15 : decode cL_fieldIndex 15 = .ok (.iconst 1, 1) := by decide +kernel
theorem dL_fieldIndex_16 : decode cL_fieldIndex 16 = .ok (.ireturn, 1) := by decide +kernel
theorem dL_fieldIndex_17 : decode cL_fieldIndex 17 = .ok (.astore 4, 2) := by decide +kernel
theorem dL_fieldIndex_19 : decode cL_fieldIndex 19 = .ok (.iconst 2, 1) := by decide +kernel
theorem dL_fieldIndex_20 : decode cL_fieldIndex 20 = .ok (.ireturn, 1) := by decide +kernel
abbrev wzL_acceptedShare : List Cond := .codeWith yL_acceptedShare cL_acceptedShare 3 (some .int) [(0, 8, 11, 183)] :: zx_G
abbrev wzL_addAuthor : List Cond := .codeWith yL_addAuthor cL_addAuthor 5 (some .int) [(0, 10, 13, 21), (0, 10, 17, 45)] :: zx_G
abbrev wzL_addEditor : List Cond := .codeWith yL_addEditor cL_addEditor 5 (some .int) [(0, 10, 13, 21), (0, 10, 17, 13)] :: zx_G
abbrev wzL_addPerson : List Cond := .codeWith yL_addPerson cL_addPerson 5 (some .int) [(0, 10, 13, 13), (0, 10, 17, 15)] :: zx_G
abbrev wzL_alarm : List Cond := .codeWith yL_alarm cL_alarm 5 (some .int) [(0, 17, 20, 21), (0, 17, 24, 45)] :: zx_G
abbrev wzL_answer : List Cond := .codeWith yL_answer cL_answer 6 (some .int) [(0, 12, 15, 21), (0, 12, 19, 45)] :: zx_G
abbrev wzL_appeal : List Cond := .codeWith yL_appeal cL_appeal 4 (some .int) [(0, 9, 12, 21), (0, 9, 15, 45)] :: zx_G
abbrev wzL_assign : List Cond := .codeWith yL_assign cL_assign 4 (some .int) [(0, 9, 12, 21), (0, 9, 15, 45), (0, 9, 18, 64)] :: zx_G
abbrev wzL_begin : List Cond := .codeWith yL_begin cL_begin 6 (some .int) [(0, 12, 15, 21), (0, 12, 19, 13), (0, 12, 23, 15)] :: zx_G
abbrev wzL_circle : List Cond := .codeWith yL_circle cL_circle 4 (some .int) [(0, 9, 12, 21)] :: zx_G
abbrev wzL_cite : List Cond := .codeWith yL_cite cL_cite 5 (some .int) [(0, 10, 13, 21), (0, 10, 17, 13), (0, 10, 21, 45)] :: zx_G
abbrev wzL_claim : List Cond := .codeWith yL_claim cL_claim 5 (some .int) [(0, 10, 13, 21), (0, 10, 17, 45)] :: zx_G
abbrev wzL_complain : List Cond := .codeWith yL_complain cL_complain 5 (some .int) [(0, 10, 13, 21), (0, 10, 17, 45)] :: zx_G
abbrev wzL_correct : List Cond := .codeWith yL_correct cL_correct 5 (some .int) [(0, 10, 13, 21), (0, 10, 17, 13), (0, 10, 21, 45)] :: zx_G
abbrev wzL_decide : List Cond := .codeWith yL_decide cL_decide 4 (some .int) [(0, 9, 12, 21), (0, 9, 15, 45)] :: zx_G
abbrev wzL_distance : List Cond := .codeWith yL_distance cL_distance 5 (some .int) [(0, 10, 13, 13)] :: zx_G
abbrev wzL_dropAuthor : List Cond := .codeWith yL_dropAuthor cL_dropAuthor 5 (some .int) [(0, 10, 13, 21), (0, 10, 17, 45)] :: zx_G
abbrev wzL_dropCitation : List Cond := .codeWith yL_dropCitation cL_dropCitation 5 (some .int) [(0, 10, 13, 21), (0, 10, 17, 45)] :: zx_G
abbrev wzL_editorOf : List Cond := .codeWith yL_editorOf cL_editorOf 4 (some .int) [(0, 9, 12, 21), (0, 9, 15, 64)] :: zx_G
abbrev wzL_embargo : List Cond := .codeWith yL_embargo cL_embargo 5 (some .int) [(0, 10, 13, 21), (0, 10, 17, 13), (0, 10, 21, 45)] :: zx_G
abbrev wzL_equalTo : List Cond := .codeWith yL_equalTo cL_equalTo 4 (some .int) [(0, 9, 12, 21), (0, 9, 15, 64)] :: zx_G
abbrev wzL_evened : List Cond := .codeWith yL_evened cL_evened 5 (some .int) [(0, 10, 13, 21), (0, 10, 17, 64)] :: zx_G
abbrev wzL_fieldIndex : List Cond := .codeWith yL_fieldIndex cL_fieldIndex 5 (some .int) [(0, 10, 13, 13), (0, 10, 17, 183)] :: zx_G
abbrev wzL_goOn : List Cond := .codeWith yL_goOn cL_goOn 4 (some .int) [(0, 9, 12, 13)] :: zx_G
abbrev wzL_hasConcern : List Cond := .codeWith yL_hasConcern cL_hasConcern 4 (some .int) [(0, 16, 19, 21)] :: zx_G
abbrev wzL_haveConflict : List Cond := .codeWith yL_haveConflict cL_haveConflict 5 (some .int) [(0, 17, 20, 21)] :: zx_G
abbrev wzL_index : List Cond := .codeWith yL_index cL_index 4 (some .int) [(0, 9, 12, 21)] :: zx_G
abbrev wzL_invitation : List Cond := .codeWith yL_invitation cL_invitation 5 (some .int) [(0, 10, 13, 21)] :: zx_G
abbrev wzL_invite : List Cond := .codeWith yL_invite cL_invite 5 (some .int) [(0, 10, 13, 21), (0, 10, 17, 13), (0, 10, 21, 45)] :: zx_G
abbrev wzL_isRight : List Cond := .codeWith yL_isRight cL_isRight 4 (some .int) [(0, 16, 19, 21)] :: zx_G
abbrev wzL_letter : List Cond := .codeWith yL_letter cL_letter 5 (some .int) [(0, 10, 13, 21)] :: zx_G
abbrev wzL_letters : List Cond := .codeWith yL_letters cL_letters 4 (some .int) [(0, 9, 12, 21)] :: zx_G
abbrev wzL_likeness : List Cond := .codeWith yL_likeness cL_likeness 5 (some .int) [(0, 10, 13, 21)] :: zx_G
abbrev wzL_meanScore : List Cond := .codeWith yL_meanScore cL_meanScore 3 (some .int) [(0, 7, 10, 183)] :: zx_G
abbrev wzL_meet : List Cond := .codeWith yL_meet cL_meet 6 (some .int) [(0, 12, 15, 21), (0, 12, 19, 45), (0, 12, 23, 64)] :: zx_G
abbrev wzL_move : List Cond := .codeWith yL_move cL_move 5 (some .int) [(0, 10, 13, 21), (0, 10, 17, 13)] :: zx_G
abbrev wzL_openPoints : List Cond := .codeWith yL_openPoints cL_openPoints 4 (some .int) [(0, 9, 12, 21)] :: zx_G
abbrev wzL_priority : List Cond := .codeWith yL_priority cL_priority 4 (some .int) [(0, 9, 12, 21), (0, 9, 15, 64)] :: zx_G
abbrev wzL_publicVersion : List Cond := .codeWith yL_publicVersion cL_publicVersion 4 (some .int) [(0, 9, 12, 21), (0, 9, 15, 64)] :: zx_G
abbrev wzL_publish : List Cond := .codeWith yL_publish cL_publish 4 (some .int) [(0, 9, 12, 21), (0, 9, 15, 45)] :: zx_G
abbrev wzL_report : List Cond := .codeWith yL_report cL_report 8 (some .int) [(0, 16, 19, 21), (0, 16, 23, 13), (0, 16, 27, 45)] :: zx_G
abbrev wzL_retract : List Cond := .codeWith yL_retract cL_retract 4 (some .int) [(0, 9, 12, 21), (0, 9, 15, 45)] :: zx_G
abbrev wzL_revise : List Cond := .codeWith yL_revise cL_revise 5 (some .int) [(0, 10, 13, 21), (0, 10, 17, 13), (0, 10, 21, 45)] :: zx_G
abbrev wzL_seat : List Cond := .codeWith yL_seat cL_seat 4 (some .int) [(0, 9, 12, 21), (0, 9, 15, 45), (0, 9, 18, 64)] :: zx_G
abbrev wzL_sees : List Cond := .codeWith yL_sees cL_sees 6 (some .int) [(0, 19, 22, 21)] :: zx_G
abbrev wzL_sendAway : List Cond := .codeWith yL_sendAway cL_sendAway 5 (some .int) [(0, 10, 13, 21), (0, 10, 17, 13)] :: zx_G
abbrev wzL_setRules : List Cond := .codeWith yL_setRules cL_setRules 8 (some .int) [(0, 16, 19, 13)] :: zx_G
abbrev wzL_showAhead : List Cond := .codeWith yL_showAhead cL_showAhead 4 (some .int) [(0, 9, 12, 21), (0, 9, 15, 45)] :: zx_G
abbrev wzL_sign : List Cond := .codeWith yL_sign cL_sign 5 (some .int) [(0, 17, 20, 21), (0, 17, 24, 45)] :: zx_G
abbrev wzL_state : List Cond := .codeWith yL_state cL_state 4 (some .int) [(0, 9, 12, 21)] :: zx_G
abbrev wzL_step : List Cond := .codeWith yL_step cL_step 6 (some .int) [(0, 12, 15, 21), (0, 12, 19, 13), (0, 12, 23, 45), (0, 12, 27, 15)] :: zx_G
abbrev wzL_tellConflict : List Cond := .codeWith yL_tellConflict cL_tellConflict 5 (some .int) [(0, 17, 20, 21)] :: zx_G
abbrev wzL_tellMoney : List Cond := .codeWith yL_tellMoney cL_tellMoney 6 (some .int) [(0, 12, 15, 21), (0, 12, 19, 13)] :: zx_G
abbrev wzL_tie : List Cond := .codeWith yL_tie cL_tie 5 (some .int) [(0, 17, 20, 13)] :: zx_G
abbrev wzL_transfer : List Cond := .codeWith yL_transfer cL_transfer 5 (some .int) [(0, 10, 13, 21), (0, 10, 17, 13), (0, 10, 21, 45)] :: zx_G
abbrev wzL_vote : List Cond := .codeWith yL_vote cL_vote 6 (some .int) [(0, 12, 15, 21), (0, 12, 19, 45)] :: zx_G
abbrev wzL_withdraw : List Cond := .codeWith yL_withdraw cL_withdraw 4 (some .int) [(0, 9, 12, 21), (0, 9, 15, 45)] :: zx_G
theorem mm_332 : (.classLink RL 13 "java/lang/IllegalArgumentException" : Cond) ∈ zx_G := zx_wi 332 (by decide +kernel) (by decide +kernel)
theorem mm_334 : (.methodLink RL 7 yX8_addPerson : Cond) ∈ zx_G := zx_wi 334 (by decide +kernel) (by decide +kernel)
theorem mm_335 : (.instanceMethod yX8_addPerson : Cond) ∈ zx_G := zx_wi 335 (by decide +kernel) (by decide +kernel)
theorem mm_336 : (.selects RX8 yX8_addPerson yX8_addPerson : Cond) ∈ zx_G := zx_wi 336 (by decide +kernel) (by decide +kernel)
theorem mm_337 : (.code yX8_addPerson cX8_addPerson 3 (some .int) : Cond) ∈ zx_G := zx_wi 337 (by decide +kernel) (by decide +kernel)
theorem mm_432 : (.classLink RL 21 "java/lang/IndexOutOfBoundsException" : Cond) ∈ zx_G := zx_wi 432 (by decide +kernel) (by decide +kernel)
theorem mm_465 : (.methodLink RL 17 yX8_tellConflict : Cond) ∈ zx_G := zx_wi 465 (by decide +kernel) (by decide +kernel)
theorem mm_466 : (.instanceMethod yX8_tellConflict : Cond) ∈ zx_G := zx_wi 466 (by decide +kernel) (by decide +kernel)
theorem mm_467 : (.selects RX8 yX8_tellConflict yX8_tellConflict : Cond) ∈ zx_G := zx_wi 467 (by decide +kernel) (by decide +kernel)
theorem mm_468 : (.code yX8_tellConflict cX8_tellConflict 4 (some .boolean) : Cond) ∈ zx_G := zx_wi 468 (by decide +kernel) (by decide +kernel)
theorem mm_511 : (.methodLink RL 23 yX8_haveConflict : Cond) ∈ zx_G := zx_wi 511 (by decide +kernel) (by decide +kernel)
theorem mm_512 : (.instanceMethod yX8_haveConflict : Cond) ∈ zx_G := zx_wi 512 (by decide +kernel) (by decide +kernel)
theorem mm_513 : (.selects RX8 yX8_haveConflict yX8_haveConflict : Cond) ∈ zx_G := zx_wi 513 (by decide +kernel) (by decide +kernel)
theorem mm_514 : (.code yX8_haveConflict cX8_haveConflict 3 (some .boolean) : Cond) ∈ zx_G := zx_wi 514 (by decide +kernel) (by decide +kernel)
theorem mm_518 : (.methodLink RL 26 yX8_sendAway : Cond) ∈ zx_G := zx_wi 518 (by decide +kernel) (by decide +kernel)
theorem mm_519 : (.instanceMethod yX8_sendAway : Cond) ∈ zx_G := zx_wi 519 (by decide +kernel) (by decide +kernel)
theorem mm_520 : (.selects RX8 yX8_sendAway yX8_sendAway : Cond) ∈ zx_G := zx_wi 520 (by decide +kernel) (by decide +kernel)
theorem mm_521 : (.code yX8_sendAway cX8_sendAway 3 (some .int) : Cond) ∈ zx_G := zx_wi 521 (by decide +kernel) (by decide +kernel)
theorem mm_525 : (.methodLink RL 29 yX8_addEditor : Cond) ∈ zx_G := zx_wi 525 (by decide +kernel) (by decide +kernel)
theorem mm_526 : (.instanceMethod yX8_addEditor : Cond) ∈ zx_G := zx_wi 526 (by decide +kernel) (by decide +kernel)
theorem mm_527 : (.selects RX8 yX8_addEditor yX8_addEditor : Cond) ∈ zx_G := zx_wi 527 (by decide +kernel) (by decide +kernel)
theorem mm_528 : (.code yX8_addEditor cX8_addEditor 3 (some .int) : Cond) ∈ zx_G := zx_wi 528 (by decide +kernel) (by decide +kernel)
theorem mm_541 : (.methodLink RL 32 yX8_tie : Cond) ∈ zx_G := zx_wi 541 (by decide +kernel) (by decide +kernel)
theorem mm_542 : (.instanceMethod yX8_tie : Cond) ∈ zx_G := zx_wi 542 (by decide +kernel) (by decide +kernel)
theorem mm_543 : (.selects RX8 yX8_tie yX8_tie : Cond) ∈ zx_G := zx_wi 543 (by decide +kernel) (by decide +kernel)
theorem mm_544 : (.code yX8_tie cX8_tie 3 (some .boolean) : Cond) ∈ zx_G := zx_wi 544 (by decide +kernel) (by decide +kernel)
theorem mm_553 : (.methodLink RL 35 yX8_distance : Cond) ∈ zx_G := zx_wi 553 (by decide +kernel) (by decide +kernel)
theorem mm_554 : (.instanceMethod yX8_distance : Cond) ∈ zx_G := zx_wi 554 (by decide +kernel) (by decide +kernel)
theorem mm_555 : (.selects RX8 yX8_distance yX8_distance : Cond) ∈ zx_G := zx_wi 555 (by decide +kernel) (by decide +kernel)
theorem mm_556 : (.code yX8_distance cX8_distance 3 (some .int) : Cond) ∈ zx_G := zx_wi 556 (by decide +kernel) (by decide +kernel)
theorem mm_568 : (.methodLink RL 38 yX8_begin : Cond) ∈ zx_G := zx_wi 568 (by decide +kernel) (by decide +kernel)
theorem mm_569 : (.instanceMethod yX8_begin : Cond) ∈ zx_G := zx_wi 569 (by decide +kernel) (by decide +kernel)
theorem mm_570 : (.selects RX8 yX8_begin yX8_begin : Cond) ∈ zx_G := zx_wi 570 (by decide +kernel) (by decide +kernel)
theorem mm_571 : (.code yX8_begin cX8_begin 5 (some .int) : Cond) ∈ zx_G := zx_wi 571 (by decide +kernel) (by decide +kernel)
theorem mm_841 : (.methodLink RL 42 yX8_addAuthor : Cond) ∈ zx_G := zx_wi 841 (by decide +kernel) (by decide +kernel)
theorem mm_842 : (.instanceMethod yX8_addAuthor : Cond) ∈ zx_G := zx_wi 842 (by decide +kernel) (by decide +kernel)
theorem mm_843 : (.selects RX8 yX8_addAuthor yX8_addAuthor : Cond) ∈ zx_G := zx_wi 843 (by decide +kernel) (by decide +kernel)
theorem mm_844 : (.code yX8_addAuthor cX8_addAuthor 5 (some .int) : Cond) ∈ zx_G := zx_wi 844 (by decide +kernel) (by decide +kernel)
theorem mm_883 : (.methodLink RL 47 yX8_dropAuthor : Cond) ∈ zx_G := zx_wi 883 (by decide +kernel) (by decide +kernel)
theorem mm_884 : (.instanceMethod yX8_dropAuthor : Cond) ∈ zx_G := zx_wi 884 (by decide +kernel) (by decide +kernel)
theorem mm_885 : (.selects RX8 yX8_dropAuthor yX8_dropAuthor : Cond) ∈ zx_G := zx_wi 885 (by decide +kernel) (by decide +kernel)
theorem mm_886 : (.code yX8_dropAuthor cX8_dropAuthor 5 (some .int) : Cond) ∈ zx_G := zx_wi 886 (by decide +kernel) (by decide +kernel)
theorem mm_890 : (.methodLink RL 50 yX8_sign : Cond) ∈ zx_G := zx_wi 890 (by decide +kernel) (by decide +kernel)
theorem mm_891 : (.instanceMethod yX8_sign : Cond) ∈ zx_G := zx_wi 891 (by decide +kernel) (by decide +kernel)
theorem mm_892 : (.selects RX8 yX8_sign yX8_sign : Cond) ∈ zx_G := zx_wi 892 (by decide +kernel) (by decide +kernel)
theorem mm_893 : (.code yX8_sign cX8_sign 4 (some .boolean) : Cond) ∈ zx_G := zx_wi 893 (by decide +kernel) (by decide +kernel)
theorem mm_915 : (.methodLink RL 53 yX8_revise : Cond) ∈ zx_G := zx_wi 915 (by decide +kernel) (by decide +kernel)
theorem mm_916 : (.instanceMethod yX8_revise : Cond) ∈ zx_G := zx_wi 916 (by decide +kernel) (by decide +kernel)
theorem mm_917 : (.selects RX8 yX8_revise yX8_revise : Cond) ∈ zx_G := zx_wi 917 (by decide +kernel) (by decide +kernel)
theorem mm_918 : (.code yX8_revise cX8_revise 4 (some .int) : Cond) ∈ zx_G := zx_wi 918 (by decide +kernel) (by decide +kernel)
theorem mm_922 : (.methodLink RL 56 yX8_withdraw : Cond) ∈ zx_G := zx_wi 922 (by decide +kernel) (by decide +kernel)
theorem mm_923 : (.instanceMethod yX8_withdraw : Cond) ∈ zx_G := zx_wi 923 (by decide +kernel) (by decide +kernel)
theorem mm_924 : (.selects RX8 yX8_withdraw yX8_withdraw : Cond) ∈ zx_G := zx_wi 924 (by decide +kernel) (by decide +kernel)
theorem mm_925 : (.code yX8_withdraw cX8_withdraw 4 (some .char) : Cond) ∈ zx_G := zx_wi 925 (by decide +kernel) (by decide +kernel)
theorem mm_934 : (.methodLink RL 60 yX8_assign : Cond) ∈ zx_G := zx_wi 934 (by decide +kernel) (by decide +kernel)
theorem mm_935 : (.instanceMethod yX8_assign : Cond) ∈ zx_G := zx_wi 935 (by decide +kernel) (by decide +kernel)
theorem mm_936 : (.selects RX8 yX8_assign yX8_assign : Cond) ∈ zx_G := zx_wi 936 (by decide +kernel) (by decide +kernel)
theorem mm_937 : (.code yX8_assign cX8_assign 4 (some .int) : Cond) ∈ zx_G := zx_wi 937 (by decide +kernel) (by decide +kernel)
theorem mm_976 : (.methodLink RL 66 yX8_editorOf : Cond) ∈ zx_G := zx_wi 976 (by decide +kernel) (by decide +kernel)
theorem mm_977 : (.instanceMethod yX8_editorOf : Cond) ∈ zx_G := zx_wi 977 (by decide +kernel) (by decide +kernel)
theorem mm_978 : (.selects RX8 yX8_editorOf yX8_editorOf : Cond) ∈ zx_G := zx_wi 978 (by decide +kernel) (by decide +kernel)
theorem mm_979 : (.code yX8_editorOf cX8_editorOf 3 (some .int) : Cond) ∈ zx_G := zx_wi 979 (by decide +kernel) (by decide +kernel)
theorem mm_983 : (.methodLink RL 69 yX8_invite : Cond) ∈ zx_G := zx_wi 983 (by decide +kernel) (by decide +kernel)
theorem mm_984 : (.instanceMethod yX8_invite : Cond) ∈ zx_G := zx_wi 984 (by decide +kernel) (by decide +kernel)
theorem mm_985 : (.selects RX8 yX8_invite yX8_invite : Cond) ∈ zx_G := zx_wi 985 (by decide +kernel) (by decide +kernel)
theorem mm_986 : (.code yX8_invite cX8_invite 7 (some .int) : Cond) ∈ zx_G := zx_wi 986 (by decide +kernel) (by decide +kernel)
theorem mm_1019 : (.methodLink RL 72 yX8_invitation : Cond) ∈ zx_G := zx_wi 1019 (by decide +kernel) (by decide +kernel)
theorem mm_1020 : (.instanceMethod yX8_invitation : Cond) ∈ zx_G := zx_wi 1020 (by decide +kernel) (by decide +kernel)
theorem mm_1021 : (.selects RX8 yX8_invitation yX8_invitation : Cond) ∈ zx_G := zx_wi 1021 (by decide +kernel) (by decide +kernel)
theorem mm_1022 : (.code yX8_invitation cX8_invitation 4 (some .char) : Cond) ∈ zx_G := zx_wi 1022 (by decide +kernel) (by decide +kernel)
theorem mm_1026 : (.methodLink RL 76 yX8_answer : Cond) ∈ zx_G := zx_wi 1026 (by decide +kernel) (by decide +kernel)
theorem mm_1027 : (.instanceMethod yX8_answer : Cond) ∈ zx_G := zx_wi 1027 (by decide +kernel) (by decide +kernel)
theorem mm_1028 : (.selects RX8 yX8_answer yX8_answer : Cond) ∈ zx_G := zx_wi 1028 (by decide +kernel) (by decide +kernel)
theorem mm_1029 : (.code yX8_answer cX8_answer 6 (some .int) : Cond) ∈ zx_G := zx_wi 1029 (by decide +kernel) (by decide +kernel)
theorem mm_1037 : (.methodLink RL 80 yX8_report : Cond) ∈ zx_G := zx_wi 1037 (by decide +kernel) (by decide +kernel)
theorem mm_1038 : (.instanceMethod yX8_report : Cond) ∈ zx_G := zx_wi 1038 (by decide +kernel) (by decide +kernel)
theorem mm_1039 : (.selects RX8 yX8_report yX8_report : Cond) ∈ zx_G := zx_wi 1039 (by decide +kernel) (by decide +kernel)
theorem mm_1040 : (.code yX8_report cX8_report 7 (some .int) : Cond) ∈ zx_G := zx_wi 1040 (by decide +kernel) (by decide +kernel)
theorem mm_1095 : (.methodLink RL 84 yX8_evened : Cond) ∈ zx_G := zx_wi 1095 (by decide +kernel) (by decide +kernel)
theorem mm_1096 : (.instanceMethod yX8_evened : Cond) ∈ zx_G := zx_wi 1096 (by decide +kernel) (by decide +kernel)
theorem mm_1097 : (.selects RX8 yX8_evened yX8_evened : Cond) ∈ zx_G := zx_wi 1097 (by decide +kernel) (by decide +kernel)
theorem mm_1098 : (.code yX8_evened cX8_evened 5 (some .int) : Cond) ∈ zx_G := zx_wi 1098 (by decide +kernel) (by decide +kernel)
theorem mm_1110 : (.methodLink RL 87 yX8_meet : Cond) ∈ zx_G := zx_wi 1110 (by decide +kernel) (by decide +kernel)
theorem mm_1111 : (.instanceMethod yX8_meet : Cond) ∈ zx_G := zx_wi 1111 (by decide +kernel) (by decide +kernel)
theorem mm_1112 : (.selects RX8 yX8_meet yX8_meet : Cond) ∈ zx_G := zx_wi 1112 (by decide +kernel) (by decide +kernel)
theorem mm_1113 : (.code yX8_meet cX8_meet 6 (some .int) : Cond) ∈ zx_G := zx_wi 1113 (by decide +kernel) (by decide +kernel)
theorem mm_1127 : (.methodLink RL 90 yX8_openPoints : Cond) ∈ zx_G := zx_wi 1127 (by decide +kernel) (by decide +kernel)
theorem mm_1128 : (.instanceMethod yX8_openPoints : Cond) ∈ zx_G := zx_wi 1128 (by decide +kernel) (by decide +kernel)
theorem mm_1129 : (.selects RX8 yX8_openPoints yX8_openPoints : Cond) ∈ zx_G := zx_wi 1129 (by decide +kernel) (by decide +kernel)
theorem mm_1130 : (.code yX8_openPoints cX8_openPoints 3 (some .int) : Cond) ∈ zx_G := zx_wi 1130 (by decide +kernel) (by decide +kernel)
theorem mm_1134 : (.methodLink RL 93 yX8_decide : Cond) ∈ zx_G := zx_wi 1134 (by decide +kernel) (by decide +kernel)
theorem mm_1135 : (.instanceMethod yX8_decide : Cond) ∈ zx_G := zx_wi 1135 (by decide +kernel) (by decide +kernel)
theorem mm_1136 : (.selects RX8 yX8_decide yX8_decide : Cond) ∈ zx_G := zx_wi 1136 (by decide +kernel) (by decide +kernel)
theorem mm_1137 : (.code yX8_decide cX8_decide 4 (some .char) : Cond) ∈ zx_G := zx_wi 1137 (by decide +kernel) (by decide +kernel)
theorem mm_1187 : (.methodLink RL 96 yX8_appeal : Cond) ∈ zx_G := zx_wi 1187 (by decide +kernel) (by decide +kernel)
theorem mm_1188 : (.instanceMethod yX8_appeal : Cond) ∈ zx_G := zx_wi 1188 (by decide +kernel) (by decide +kernel)
theorem mm_1189 : (.selects RX8 yX8_appeal yX8_appeal : Cond) ∈ zx_G := zx_wi 1189 (by decide +kernel) (by decide +kernel)
theorem mm_1190 : (.code yX8_appeal cX8_appeal 4 (some .int) : Cond) ∈ zx_G := zx_wi 1190 (by decide +kernel) (by decide +kernel)
theorem mm_1198 : (.methodLink RL 99 yX8_transfer : Cond) ∈ zx_G := zx_wi 1198 (by decide +kernel) (by decide +kernel)
theorem mm_1199 : (.instanceMethod yX8_transfer : Cond) ∈ zx_G := zx_wi 1199 (by decide +kernel) (by decide +kernel)
theorem mm_1200 : (.selects RX8 yX8_transfer yX8_transfer : Cond) ∈ zx_G := zx_wi 1200 (by decide +kernel) (by decide +kernel)
theorem mm_1201 : (.code yX8_transfer cX8_transfer 4 (some .int) : Cond) ∈ zx_G := zx_wi 1201 (by decide +kernel) (by decide +kernel)
theorem mm_1205 : (.methodLink RL 102 yX8_showAhead : Cond) ∈ zx_G := zx_wi 1205 (by decide +kernel) (by decide +kernel)
theorem mm_1206 : (.instanceMethod yX8_showAhead : Cond) ∈ zx_G := zx_wi 1206 (by decide +kernel) (by decide +kernel)
theorem mm_1207 : (.selects RX8 yX8_showAhead yX8_showAhead : Cond) ∈ zx_G := zx_wi 1207 (by decide +kernel) (by decide +kernel)
theorem mm_1208 : (.code yX8_showAhead cX8_showAhead 3 (some .int) : Cond) ∈ zx_G := zx_wi 1208 (by decide +kernel) (by decide +kernel)
theorem mm_1212 : (.methodLink RL 105 yX8_priority : Cond) ∈ zx_G := zx_wi 1212 (by decide +kernel) (by decide +kernel)
theorem mm_1213 : (.instanceMethod yX8_priority : Cond) ∈ zx_G := zx_wi 1213 (by decide +kernel) (by decide +kernel)
theorem mm_1214 : (.selects RX8 yX8_priority yX8_priority : Cond) ∈ zx_G := zx_wi 1214 (by decide +kernel) (by decide +kernel)
theorem mm_1215 : (.code yX8_priority cX8_priority 3 (some .int) : Cond) ∈ zx_G := zx_wi 1215 (by decide +kernel) (by decide +kernel)
theorem mm_1219 : (.methodLink RL 108 yX8_embargo : Cond) ∈ zx_G := zx_wi 1219 (by decide +kernel) (by decide +kernel)
theorem mm_1220 : (.instanceMethod yX8_embargo : Cond) ∈ zx_G := zx_wi 1220 (by decide +kernel) (by decide +kernel)
theorem mm_1221 : (.selects RX8 yX8_embargo yX8_embargo : Cond) ∈ zx_G := zx_wi 1221 (by decide +kernel) (by decide +kernel)
theorem mm_1222 : (.code yX8_embargo cX8_embargo 5 (some .int) : Cond) ∈ zx_G := zx_wi 1222 (by decide +kernel) (by decide +kernel)
theorem mm_1226 : (.methodLink RL 111 yX8_publish : Cond) ∈ zx_G := zx_wi 1226 (by decide +kernel) (by decide +kernel)
theorem mm_1227 : (.instanceMethod yX8_publish : Cond) ∈ zx_G := zx_wi 1227 (by decide +kernel) (by decide +kernel)
theorem mm_1228 : (.selects RX8 yX8_publish yX8_publish : Cond) ∈ zx_G := zx_wi 1228 (by decide +kernel) (by decide +kernel)
theorem mm_1229 : (.code yX8_publish cX8_publish 3 (some .int) : Cond) ∈ zx_G := zx_wi 1229 (by decide +kernel) (by decide +kernel)
theorem mm_1240 : (.methodLink RL 114 yX8_cite : Cond) ∈ zx_G := zx_wi 1240 (by decide +kernel) (by decide +kernel)
theorem mm_1241 : (.instanceMethod yX8_cite : Cond) ∈ zx_G := zx_wi 1241 (by decide +kernel) (by decide +kernel)
theorem mm_1242 : (.selects RX8 yX8_cite yX8_cite : Cond) ∈ zx_G := zx_wi 1242 (by decide +kernel) (by decide +kernel)
theorem mm_1243 : (.code yX8_cite cX8_cite 4 (some .int) : Cond) ∈ zx_G := zx_wi 1243 (by decide +kernel) (by decide +kernel)
theorem mm_1247 : (.methodLink RL 117 yX8_retract : Cond) ∈ zx_G := zx_wi 1247 (by decide +kernel) (by decide +kernel)
theorem mm_1248 : (.instanceMethod yX8_retract : Cond) ∈ zx_G := zx_wi 1248 (by decide +kernel) (by decide +kernel)
theorem mm_1249 : (.selects RX8 yX8_retract yX8_retract : Cond) ∈ zx_G := zx_wi 1249 (by decide +kernel) (by decide +kernel)
theorem mm_1250 : (.code yX8_retract cX8_retract 3 (some .int) : Cond) ∈ zx_G := zx_wi 1250 (by decide +kernel) (by decide +kernel)
theorem mm_1270 : (.methodLink RL 120 yX8_hasConcern : Cond) ∈ zx_G := zx_wi 1270 (by decide +kernel) (by decide +kernel)
theorem mm_1271 : (.instanceMethod yX8_hasConcern : Cond) ∈ zx_G := zx_wi 1271 (by decide +kernel) (by decide +kernel)
theorem mm_1272 : (.selects RX8 yX8_hasConcern yX8_hasConcern : Cond) ∈ zx_G := zx_wi 1272 (by decide +kernel) (by decide +kernel)
theorem mm_1273 : (.code yX8_hasConcern cX8_hasConcern 3 (some .boolean) : Cond) ∈ zx_G := zx_wi 1273 (by decide +kernel) (by decide +kernel)
theorem mm_1277 : (.methodLink RL 124 yX8_step : Cond) ∈ zx_G := zx_wi 1277 (by decide +kernel) (by decide +kernel)
theorem mm_1278 : (.instanceMethod yX8_step : Cond) ∈ zx_G := zx_wi 1278 (by decide +kernel) (by decide +kernel)
theorem mm_1279 : (.selects RX8 yX8_step yX8_step : Cond) ∈ zx_G := zx_wi 1279 (by decide +kernel) (by decide +kernel)
theorem mm_1280 : (.code yX8_step cX8_step 5 (some .int) : Cond) ∈ zx_G := zx_wi 1280 (by decide +kernel) (by decide +kernel)
theorem mm_1288 : (.methodLink RL 128 yX8_claim : Cond) ∈ zx_G := zx_wi 1288 (by decide +kernel) (by decide +kernel)
theorem mm_1289 : (.instanceMethod yX8_claim : Cond) ∈ zx_G := zx_wi 1289 (by decide +kernel) (by decide +kernel)
theorem mm_1290 : (.selects RX8 yX8_claim yX8_claim : Cond) ∈ zx_G := zx_wi 1290 (by decide +kernel) (by decide +kernel)
theorem mm_1291 : (.code yX8_claim cX8_claim 5 (some .int) : Cond) ∈ zx_G := zx_wi 1291 (by decide +kernel) (by decide +kernel)
theorem mm_1295 : (.methodLink RL 131 yX8_isRight : Cond) ∈ zx_G := zx_wi 1295 (by decide +kernel) (by decide +kernel)
theorem mm_1296 : (.instanceMethod yX8_isRight : Cond) ∈ zx_G := zx_wi 1296 (by decide +kernel) (by decide +kernel)
theorem mm_1297 : (.selects RX8 yX8_isRight yX8_isRight : Cond) ∈ zx_G := zx_wi 1297 (by decide +kernel) (by decide +kernel)
theorem mm_1298 : (.code yX8_isRight cX8_isRight 3 (some .boolean) : Cond) ∈ zx_G := zx_wi 1298 (by decide +kernel) (by decide +kernel)
theorem mm_1302 : (.methodLink RL 134 yX8_likeness : Cond) ∈ zx_G := zx_wi 1302 (by decide +kernel) (by decide +kernel)
theorem mm_1303 : (.instanceMethod yX8_likeness : Cond) ∈ zx_G := zx_wi 1303 (by decide +kernel) (by decide +kernel)
theorem mm_1304 : (.selects RX8 yX8_likeness yX8_likeness : Cond) ∈ zx_G := zx_wi 1304 (by decide +kernel) (by decide +kernel)
theorem mm_1305 : (.code yX8_likeness cX8_likeness 5 (some .int) : Cond) ∈ zx_G := zx_wi 1305 (by decide +kernel) (by decide +kernel)
theorem mm_1309 : (.methodLink RL 137 yX8_tellMoney : Cond) ∈ zx_G := zx_wi 1309 (by decide +kernel) (by decide +kernel)
theorem mm_1310 : (.instanceMethod yX8_tellMoney : Cond) ∈ zx_G := zx_wi 1310 (by decide +kernel) (by decide +kernel)
theorem mm_1311 : (.selects RX8 yX8_tellMoney yX8_tellMoney : Cond) ∈ zx_G := zx_wi 1311 (by decide +kernel) (by decide +kernel)
theorem mm_1312 : (.code yX8_tellMoney cX8_tellMoney 5 (some .int) : Cond) ∈ zx_G := zx_wi 1312 (by decide +kernel) (by decide +kernel)
theorem mm_1316 : (.methodLink RL 140 yX8_move : Cond) ∈ zx_G := zx_wi 1316 (by decide +kernel) (by decide +kernel)
theorem mm_1317 : (.instanceMethod yX8_move : Cond) ∈ zx_G := zx_wi 1317 (by decide +kernel) (by decide +kernel)
theorem mm_1318 : (.selects RX8 yX8_move yX8_move : Cond) ∈ zx_G := zx_wi 1318 (by decide +kernel) (by decide +kernel)
theorem mm_1319 : (.code yX8_move cX8_move 4 (some .int) : Cond) ∈ zx_G := zx_wi 1319 (by decide +kernel) (by decide +kernel)
theorem mm_1323 : (.methodLink RL 143 yX8_setRules : Cond) ∈ zx_G := zx_wi 1323 (by decide +kernel) (by decide +kernel)
theorem mm_1324 : (.instanceMethod yX8_setRules : Cond) ∈ zx_G := zx_wi 1324 (by decide +kernel) (by decide +kernel)
theorem mm_1325 : (.selects RX8 yX8_setRules yX8_setRules : Cond) ∈ zx_G := zx_wi 1325 (by decide +kernel) (by decide +kernel)
theorem mm_1326 : (.code yX8_setRules cX8_setRules 7 (some .char) : Cond) ∈ zx_G := zx_wi 1326 (by decide +kernel) (by decide +kernel)
theorem mm_1330 : (.methodLink RL 147 yX8_alarm : Cond) ∈ zx_G := zx_wi 1330 (by decide +kernel) (by decide +kernel)
theorem mm_1331 : (.instanceMethod yX8_alarm : Cond) ∈ zx_G := zx_wi 1331 (by decide +kernel) (by decide +kernel)
theorem mm_1332 : (.selects RX8 yX8_alarm yX8_alarm : Cond) ∈ zx_G := zx_wi 1332 (by decide +kernel) (by decide +kernel)
theorem mm_1333 : (.code yX8_alarm cX8_alarm 6 (some .boolean) : Cond) ∈ zx_G := zx_wi 1333 (by decide +kernel) (by decide +kernel)
theorem mm_1337 : (.methodLink RL 150 yX8_equalTo : Cond) ∈ zx_G := zx_wi 1337 (by decide +kernel) (by decide +kernel)
theorem mm_1338 : (.instanceMethod yX8_equalTo : Cond) ∈ zx_G := zx_wi 1338 (by decide +kernel) (by decide +kernel)
theorem mm_1339 : (.selects RX8 yX8_equalTo yX8_equalTo : Cond) ∈ zx_G := zx_wi 1339 (by decide +kernel) (by decide +kernel)
theorem mm_1340 : (.code yX8_equalTo cX8_equalTo 4 (some .int) : Cond) ∈ zx_G := zx_wi 1340 (by decide +kernel) (by decide +kernel)
theorem mm_1344 : (.methodLink RL 153 yX8_complain : Cond) ∈ zx_G := zx_wi 1344 (by decide +kernel) (by decide +kernel)
theorem mm_1345 : (.instanceMethod yX8_complain : Cond) ∈ zx_G := zx_wi 1345 (by decide +kernel) (by decide +kernel)
theorem mm_1346 : (.selects RX8 yX8_complain yX8_complain : Cond) ∈ zx_G := zx_wi 1346 (by decide +kernel) (by decide +kernel)
theorem mm_1347 : (.code yX8_complain cX8_complain 4 (some .int) : Cond) ∈ zx_G := zx_wi 1347 (by decide +kernel) (by decide +kernel)
theorem mm_1351 : (.methodLink RL 156 yX8_seat : Cond) ∈ zx_G := zx_wi 1351 (by decide +kernel) (by decide +kernel)
theorem mm_1352 : (.instanceMethod yX8_seat : Cond) ∈ zx_G := zx_wi 1352 (by decide +kernel) (by decide +kernel)
theorem mm_1353 : (.selects RX8 yX8_seat yX8_seat : Cond) ∈ zx_G := zx_wi 1353 (by decide +kernel) (by decide +kernel)
theorem mm_1354 : (.code yX8_seat cX8_seat 4 (some .int) : Cond) ∈ zx_G := zx_wi 1354 (by decide +kernel) (by decide +kernel)
theorem mm_1378 : (.methodLink RL 159 yX8_vote : Cond) ∈ zx_G := zx_wi 1378 (by decide +kernel) (by decide +kernel)
theorem mm_1379 : (.instanceMethod yX8_vote : Cond) ∈ zx_G := zx_wi 1379 (by decide +kernel) (by decide +kernel)
theorem mm_1380 : (.selects RX8 yX8_vote yX8_vote : Cond) ∈ zx_G := zx_wi 1380 (by decide +kernel) (by decide +kernel)
theorem mm_1381 : (.code yX8_vote cX8_vote 5 (some .char) : Cond) ∈ zx_G := zx_wi 1381 (by decide +kernel) (by decide +kernel)
theorem mm_1397 : (.methodLink RL 163 yX8_sees : Cond) ∈ zx_G := zx_wi 1397 (by decide +kernel) (by decide +kernel)
theorem mm_1398 : (.instanceMethod yX8_sees : Cond) ∈ zx_G := zx_wi 1398 (by decide +kernel) (by decide +kernel)
theorem mm_1399 : (.selects RX8 yX8_sees yX8_sees : Cond) ∈ zx_G := zx_wi 1399 (by decide +kernel) (by decide +kernel)
theorem mm_1400 : (.code yX8_sees cX8_sees 5 (some .boolean) : Cond) ∈ zx_G := zx_wi 1400 (by decide +kernel) (by decide +kernel)
theorem mm_1426 : (.methodLink RL 167 yX8_correct : Cond) ∈ zx_G := zx_wi 1426 (by decide +kernel) (by decide +kernel)
theorem mm_1427 : (.instanceMethod yX8_correct : Cond) ∈ zx_G := zx_wi 1427 (by decide +kernel) (by decide +kernel)
theorem mm_1428 : (.selects RX8 yX8_correct yX8_correct : Cond) ∈ zx_G := zx_wi 1428 (by decide +kernel) (by decide +kernel)
theorem mm_1429 : (.code yX8_correct cX8_correct 4 (some .int) : Cond) ∈ zx_G := zx_wi 1429 (by decide +kernel) (by decide +kernel)
theorem mm_1433 : (.methodLink RL 170 yX8_dropCitation : Cond) ∈ zx_G := zx_wi 1433 (by decide +kernel) (by decide +kernel)
theorem mm_1434 : (.instanceMethod yX8_dropCitation : Cond) ∈ zx_G := zx_wi 1434 (by decide +kernel) (by decide +kernel)
theorem mm_1435 : (.selects RX8 yX8_dropCitation yX8_dropCitation : Cond) ∈ zx_G := zx_wi 1435 (by decide +kernel) (by decide +kernel)
theorem mm_1436 : (.code yX8_dropCitation cX8_dropCitation 4 (some .int) : Cond) ∈ zx_G := zx_wi 1436 (by decide +kernel) (by decide +kernel)
theorem mm_1440 : (.methodLink RL 173 yX8_publicVersion : Cond) ∈ zx_G := zx_wi 1440 (by decide +kernel) (by decide +kernel)
theorem mm_1441 : (.instanceMethod yX8_publicVersion : Cond) ∈ zx_G := zx_wi 1441 (by decide +kernel) (by decide +kernel)
theorem mm_1442 : (.selects RX8 yX8_publicVersion yX8_publicVersion : Cond) ∈ zx_G := zx_wi 1442 (by decide +kernel) (by decide +kernel)
theorem mm_1443 : (.code yX8_publicVersion cX8_publicVersion 3 (some .int) : Cond) ∈ zx_G := zx_wi 1443 (by decide +kernel) (by decide +kernel)
theorem mm_1447 : (.methodLink RL 176 yX8_index : Cond) ∈ zx_G := zx_wi 1447 (by decide +kernel) (by decide +kernel)
theorem mm_1448 : (.instanceMethod yX8_index : Cond) ∈ zx_G := zx_wi 1448 (by decide +kernel) (by decide +kernel)
theorem mm_1449 : (.selects RX8 yX8_index yX8_index : Cond) ∈ zx_G := zx_wi 1449 (by decide +kernel) (by decide +kernel)
theorem mm_1450 : (.code yX8_index cX8_index 4 (some .int) : Cond) ∈ zx_G := zx_wi 1450 (by decide +kernel) (by decide +kernel)
theorem mm_1467 : (.classLink RL 183 "java/lang/ArithmeticException" : Cond) ∈ zx_G := zx_wi 1467 (by decide +kernel) (by decide +kernel)
theorem mm_1481 : (.methodLink RL 179 yX8_fieldIndex : Cond) ∈ zx_G := zx_wi 1481 (by decide +kernel) (by decide +kernel)
theorem mm_1482 : (.instanceMethod yX8_fieldIndex : Cond) ∈ zx_G := zx_wi 1482 (by decide +kernel) (by decide +kernel)
theorem mm_1483 : (.selects RX8 yX8_fieldIndex yX8_fieldIndex : Cond) ∈ zx_G := zx_wi 1483 (by decide +kernel) (by decide +kernel)
theorem mm_1484 : (.code yX8_fieldIndex cX8_fieldIndex 8 (some .float) : Cond) ∈ zx_G := zx_wi 1484 (by decide +kernel) (by decide +kernel)
theorem mm_1497 : (.methodLink RL 185 yX8_circle : Cond) ∈ zx_G := zx_wi 1497 (by decide +kernel) (by decide +kernel)
theorem mm_1498 : (.instanceMethod yX8_circle : Cond) ∈ zx_G := zx_wi 1498 (by decide +kernel) (by decide +kernel)
theorem mm_1499 : (.selects RX8 yX8_circle yX8_circle : Cond) ∈ zx_G := zx_wi 1499 (by decide +kernel) (by decide +kernel)
theorem mm_1500 : (.code yX8_circle cX8_circle 4 (some .int) : Cond) ∈ zx_G := zx_wi 1500 (by decide +kernel) (by decide +kernel)
theorem mm_1516 : (.methodLink RL 188 yX8_state : Cond) ∈ zx_G := zx_wi 1516 (by decide +kernel) (by decide +kernel)
theorem mm_1517 : (.instanceMethod yX8_state : Cond) ∈ zx_G := zx_wi 1517 (by decide +kernel) (by decide +kernel)
theorem mm_1518 : (.selects RX8 yX8_state yX8_state : Cond) ∈ zx_G := zx_wi 1518 (by decide +kernel) (by decide +kernel)
theorem mm_1519 : (.code yX8_state cX8_state 3 (some .char) : Cond) ∈ zx_G := zx_wi 1519 (by decide +kernel) (by decide +kernel)
theorem mm_1523 : (.methodLink RL 191 yX8_letters : Cond) ∈ zx_G := zx_wi 1523 (by decide +kernel) (by decide +kernel)
theorem mm_1524 : (.instanceMethod yX8_letters : Cond) ∈ zx_G := zx_wi 1524 (by decide +kernel) (by decide +kernel)
theorem mm_1525 : (.selects RX8 yX8_letters yX8_letters : Cond) ∈ zx_G := zx_wi 1525 (by decide +kernel) (by decide +kernel)
theorem mm_1526 : (.code yX8_letters cX8_letters 3 (some .int) : Cond) ∈ zx_G := zx_wi 1526 (by decide +kernel) (by decide +kernel)
theorem mm_1530 : (.methodLink RL 194 yX8_letter : Cond) ∈ zx_G := zx_wi 1530 (by decide +kernel) (by decide +kernel)
theorem mm_1531 : (.instanceMethod yX8_letter : Cond) ∈ zx_G := zx_wi 1531 (by decide +kernel) (by decide +kernel)
theorem mm_1532 : (.selects RX8 yX8_letter yX8_letter : Cond) ∈ zx_G := zx_wi 1532 (by decide +kernel) (by decide +kernel)
theorem mm_1533 : (.code yX8_letter cX8_letter 4 (some .char) : Cond) ∈ zx_G := zx_wi 1533 (by decide +kernel) (by decide +kernel)
theorem mm_1541 : (.methodLink RL 197 yX8_goOn : Cond) ∈ zx_G := zx_wi 1541 (by decide +kernel) (by decide +kernel)
theorem mm_1542 : (.instanceMethod yX8_goOn : Cond) ∈ zx_G := zx_wi 1542 (by decide +kernel) (by decide +kernel)
theorem mm_1543 : (.selects RX8 yX8_goOn yX8_goOn : Cond) ∈ zx_G := zx_wi 1543 (by decide +kernel) (by decide +kernel)
theorem mm_1544 : (.code yX8_goOn cX8_goOn 4 (some .int) : Cond) ∈ zx_G := zx_wi 1544 (by decide +kernel) (by decide +kernel)
theorem mm_1552 : (.methodLink RL 200 yX8_acceptedShare : Cond) ∈ zx_G := zx_wi 1552 (by decide +kernel) (by decide +kernel)
theorem mm_1553 : (.instanceMethod yX8_acceptedShare : Cond) ∈ zx_G := zx_wi 1553 (by decide +kernel) (by decide +kernel)
theorem mm_1554 : (.selects RX8 yX8_acceptedShare yX8_acceptedShare : Cond) ∈ zx_G := zx_wi 1554 (by decide +kernel) (by decide +kernel)
theorem mm_1555 : (.code yX8_acceptedShare cX8_acceptedShare 5 (some .float) : Cond) ∈ zx_G := zx_wi 1555 (by decide +kernel) (by decide +kernel)
theorem mm_1559 : (.methodLink RL 204 yX8_meanScore : Cond) ∈ zx_G := zx_wi 1559 (by decide +kernel) (by decide +kernel)
theorem mm_1560 : (.instanceMethod yX8_meanScore : Cond) ∈ zx_G := zx_wi 1560 (by decide +kernel) (by decide +kernel)
theorem mm_1561 : (.selects RX8 yX8_meanScore yX8_meanScore : Cond) ∈ zx_G := zx_wi 1561 (by decide +kernel) (by decide +kernel)
theorem mm_1562 : (.code yX8_meanScore cX8_meanScore 4 (some .double) : Cond) ∈ zx_G := zx_wi 1562 (by decide +kernel) (by decide +kernel)
set_option maxHeartbeats 4000000 in
set_option maxRecDepth 100000 in
theorem c_L_tellConflict (l : Launch) (hst : l.stackTraces = false) (D : va_G) (cy : Nat → ClassId) (ed sz : Nat) (h : Nat) (pe : Nat) (ne : Nat) (pa : Nat) (ro : Nat) (dy : Int32) (a1 : Nat) (a2 : Nat) (a3 : Nat) (a4 : Nat) (a5 : Nat) (a6 : Nat) (a7 : Nat) (a8 : Nat) (a9 : Nat) (oa : Nat) (og : Nat → Int64) (p0 : Int32) (p1 : Int32) : vx_Met l yL_tellConflict wzL_tellConflict ({ frames := 8, cells := 1, slots := 6, locals := 125 }) (zx_Pc D cy ed sz [.ref h, .int p0, .int p1, .ref oa] [(h, .inr (13, [.ref pe, .ref ne, .ref pa, .ref ro, .int dy])), (pe, .inr (9, [.int 0, .ref a1, .ref a2, .ref a3, .ref a4, .ref a5, .ref a6, .ref a7, .ref a8, .ref a9])), (oa, .inl (cy 3, 1, .inr (.inl og)))]) (va_Qi (fun (r9 : Int32) (u9 : Unit) => r9 = 1) (fun (u9 : Unit) (t9 : State) => zx_At D cy (va_A [(h, .inr (13, [.ref pe, .ref ne, .ref pa, .ref ro, .int dy])), (pe, .inr (9, [.int 0, .ref a1, .ref a2, .ref a3, .ref a4, .ref a5, .ref a6, .ref a7, .ref a8, .ref a9])), (oa, .inl (cy 3, 1, .inr (.inl og)))] sz) [] t9) (va_A [(h, .inr (13, [.ref pe, .ref ne, .ref pa, .ref ro, .int dy])), (pe, .inr (9, [.int 0, .ref a1, .ref a2, .ref a3, .ref a4, .ref a5, .ref a6, .ref a7, .ref a8, .ref a9])), (oa, .inl (cy 3, 1, .inr (.inl og)))] sz)) (zx_X (fun _ => False) (va_A [(h, .inr (13, [.ref pe, .ref ne, .ref pa, .ref ro, .int dy])), (pe, .inr (9, [.int 0, .ref a1, .ref a2, .ref a3, .ref a4, .ref a5, .ref a6, .ref a7, .ref a8, .ref a9])), (oa, .inl (cy 3, 1, .inr (.inl og)))] sz)) 1 6 (va_A [(h, .inr (13, [.ref pe, .ref ne, .ref pa, .ref ro, .int dy])), (pe, .inr (9, [.int 0, .ref a1, .ref a2, .ref a3, .ref a4, .ref a5, .ref a6, .ref a7, .ref a8, .ref a9])), (oa, .inl (cy 3, 1, .inr (.inl og)))] sz) := by
  refine vx_ofWH (cc := cL_tellConflict) (maxL := 5) (ret := (some .int)) (hh := [(0, 17, 20, 21)]) (by decide) rfl ?_
  intro p e s m args below meth c s₁ B hml hv
  have htb := vx_table (x := objectInit) B (atoms_spec (ws := wzL_tellConflict) B.pre _ List.mem_cons_self)
  obtain ⟨rfl, hsz, hP, hK, hD0, hZ, hN⟩ := hv
  have hx := B.exec
  have hb := B.bytes
  have hr := B.returns
  have hts := atoms_spec (ws := wzL_tellConflict) B.pre
  have hown : s.vm.findClass RL = some m.cls := findClass_of_methodNamed B.named
  have hlocks := B.notSynchronized
  subst hsz
  have hD := hD0.self (sz := s.heap.size)
  generalize hAe : va_A [(h, .inr (13, [.ref pe, .ref ne, .ref pa, .ref ro, .int dy])), (pe, .inr (9, [.int 0, .ref a1, .ref a2, .ref a3, .ref a4, .ref a5, .ref a6, .ref a7, .ref a8, .ref a9])), (oa, .inl (cy 3, 1, .inr (.inl og)))] s.heap.size = A at hD hZ ⊢
  have hA : ∀ q : Nat, s.heap.size ≤ q → A q := fun q h => by rw [← hAe]; exact Or.inr h
  have hS : va_S A s.heap s.heap [] := va_S.rf
  have hP : va_P D vwCl [(h, .inr (13, [.ref pe, .ref ne, .ref pa, .ref ro, .int dy])), (pe, .inr (9, [.int 0, .ref a1, .ref a2, .ref a3, .ref a4, .ref a5, .ref a6, .ref a7, .ref a8, .ref a9])), (oa, .inl (cy 3, 1, .inr (.inl og)))] s.heap := hP
  have hl := lv_entry ([.ref h, .int p0, .int p1, .ref oa]) (n := 5) (Nat.le_of_ble_eq_true rfl)
  rw [lg_entry_eq]
  generalize (lg_sl ([.ref h, .int p0, .int p1, .ref oa]) ++ List.replicate (5 - (lg_sl ([.ref h, .int p0, .int p1, .ref oa])).length) Slot.unset).toArray = ls at hl ⊢
  have hl : lv_has ls 5 [(0, .ref h), (1, .int p0), (2, .int p1), (3, .ref oa)] := hl
  refine lv_aload_n hx hb dL_tellConflict_0 rfl (lv_at hl 3 rfl) ?_
  refine lv_iconst (v := 0) hx hb dL_tellConflict_1 (by decide) ?_
  refine lv_aload_n hx hb dL_tellConflict_2 rfl (lv_at hl 0 rfl) ?_
  refine lv_iload_n hx hb dL_tellConflict_3 rfl (lv_at hl 1 rfl) ?_
  refine lv_iload_n hx hb dL_tellConflict_4 rfl (lv_at hl 2 rfl) ?_
  have hPc := hP.sub (ws' := [(h, .inr (13, [.ref pe, .ref ne, .ref pa, .ref ro, .int dy])), (pe, .inr (9, [.int 0, .ref a1, .ref a2, .ref a3, .ref a4, .ref a5, .ref a6, .ref a7, .ref a8, .ref a9]))]) [0, 1] rfl
  have hDc := hD.sub (ws' := [(h, .inr (13, [.ref pe, .ref ne, .ref pa, .ref ro, .int dy])), (pe, .inr (9, [.int 0, .ref a1, .ref a2, .ref a3, .ref a4, .ref a5, .ref a6, .ref a7, .ref a8, .ref a9]))]) [0, 1] (by decide) rfl
  have hFc := va_free (wc := [(h, .inr (13, [.ref pe, .ref ne, .ref pa, .ref ro, .int dy])), (pe, .inr (9, [.int 0, .ref a1, .ref a2, .ref a3, .ref a4, .ref a5, .ref a6, .ref a7, .ref a8, .ref a9]))]) hD hS hA [0, 1] rfl
  refine vx_calli (vx_runV (As := [.int p0, .int p1]) (rest := [.int 0, .ref oa]) ⟨hx, hb, hml, hown, hts⟩ (c_X8_tellConflict l hst D cy ed s.heap.size h pe ne pa ro dy a1 a2 a3 a4 a5 a6 a7 a8 a9 p0 p1) (cwV 2 hts (zx_GV mm_465 mm_466 mm_467 mm_71 mm_468) rfl rfl rfl (by decide +kernel) ⟨(Nat.le_of_ble_eq_true rfl), (Nat.le_of_ble_eq_true rfl)⟩) ⟨zx_blind, va_recv hK hPc (ci := 13) (q0 := 0) rfl rfl, zx_give hPc hK hDc hS hFc hZ hN⟩ rfl rfl hl.1 rfl (lv_room (Nat.le_of_ble_eq_true rfl)) dL_tellConflict_5 ⟨(Nat.le_of_ble_eq_true rfl), (Nat.le_of_ble_eq_true rfl)⟩) hS (fun q _ h => hFc q h) hFc (fun q _ h => hFc q h) (fun E9 ce9 q9 _ t H locs ht hvm _ hBX hz1 hk1 hS hce hcv hcl => ?_) (fun r9 u t H locs ht hvm hw hB hz1 hk1 hS => ?_)
  · have hBX : (fun E9 => E9 = "java/lang/IndexOutOfBoundsException") E9 := hBX
    obtain rfl := hBX
    refine vx_catch hown [] { startPc := 0, endPc := 17, handlerPc := 20, catchType := 21 } [] (by rw [htb]; rfl) (fun z9 h9 => absurd h9 List.not_mem_nil) (by decide) (by decide) (hts (.classLink RL 21 "java/lang/IndexOutOfBoundsException") (zx_Gc mm_432)) (zx_cast_moved (Vm.Alike.refl _) (hN.2.2.1 _ _ (List.mem_of_getElem? (i := 475) (by decide +kernel)))) hce hcv hcl ?_
    obtain ⟨hP, hD⟩ := va_join (wr := [(oa, .inl (cy 3, 1, .inr (.inl og)))]) (w1 := []) hP hD [0, 1] [2] rfl rfl (by decide) (by decide) hk1 hFc zx_P0 zx_D0
    have hP : va_P D vwCl [(oa, .inl (cy 3, 1, .inr (.inl og)))] H := hP
    have hD : va_D A [(oa, .inl (cy 3, 1, .inr (.inl og)))] := hD
    refine W.widen (k := 1) (n := 6) (Nat.le_of_ble_eq_true rfl) (Nat.le_of_ble_eq_true rfl) ?_
    refine lv_astore (lv' := [(4, .ref q9), (0, .ref h), (1, .int p0), (2, .int p1), (3, .ref oa)]) hx hb dL_tellConflict_20 hl (by decide) rfl (fun ls hl => ?_)
    refine lv_iconst (v := 1) hx hb dL_tellConflict_22 (by decide) ?_
    have hP9 := hP.sub (ws' := []) [] rfl
    have hD9 := hD.sub (ws' := []) [] (by decide) rfl
    refine vx_ret ?_
    exact W.iret (v := 1) hx hb hr (fun t ht hW => ⟨⟨1, (), rfl, rfl, zx_fin hP9 hD9 hK ht hW⟩, hS.F ht⟩) hS.2.2 dL_tellConflict_23
  · exact hw.elim
set_option maxHeartbeats 4000000 in
set_option maxRecDepth 100000 in
theorem c_L_haveConflict (l : Launch) (hst : l.stackTraces = false) (D : va_G) (cy : Nat → ClassId) (ed sz : Nat) (h : Nat) (pe : Nat) (ne : Nat) (pa : Nat) (ro : Nat) (dy : Int32) (a1 : Nat) (a2 : Nat) (a3 : Nat) (a4 : Nat) (a5 : Nat) (a6 : Nat) (a7 : Nat) (a8 : Nat) (a9 : Nat) (oa : Nat) (og : Nat → Int64) (p0 : Int32) (p1 : Int32) : vx_Met l yL_haveConflict wzL_haveConflict ({ frames := 8, cells := 1, slots := 6, locals := 124 }) (zx_Pc D cy ed sz [.ref h, .int p0, .int p1, .ref oa] [(h, .inr (13, [.ref pe, .ref ne, .ref pa, .ref ro, .int dy])), (pe, .inr (9, [.int 0, .ref a1, .ref a2, .ref a3, .ref a4, .ref a5, .ref a6, .ref a7, .ref a8, .ref a9])), (oa, .inl (cy 3, 1, .inr (.inl og)))]) (va_Qi (fun (r9 : Int32) (u9 : Unit) => r9 = 1) (fun (u9 : Unit) (t9 : State) => zx_At D cy (va_A [(h, .inr (13, [.ref pe, .ref ne, .ref pa, .ref ro, .int dy])), (pe, .inr (9, [.int 0, .ref a1, .ref a2, .ref a3, .ref a4, .ref a5, .ref a6, .ref a7, .ref a8, .ref a9])), (oa, .inl (cy 3, 1, .inr (.inl og)))] sz) [] t9) (va_A [(h, .inr (13, [.ref pe, .ref ne, .ref pa, .ref ro, .int dy])), (pe, .inr (9, [.int 0, .ref a1, .ref a2, .ref a3, .ref a4, .ref a5, .ref a6, .ref a7, .ref a8, .ref a9])), (oa, .inl (cy 3, 1, .inr (.inl og)))] sz)) (zx_X (fun _ => False) (va_A [(h, .inr (13, [.ref pe, .ref ne, .ref pa, .ref ro, .int dy])), (pe, .inr (9, [.int 0, .ref a1, .ref a2, .ref a3, .ref a4, .ref a5, .ref a6, .ref a7, .ref a8, .ref a9])), (oa, .inl (cy 3, 1, .inr (.inl og)))] sz)) 1 6 (va_A [(h, .inr (13, [.ref pe, .ref ne, .ref pa, .ref ro, .int dy])), (pe, .inr (9, [.int 0, .ref a1, .ref a2, .ref a3, .ref a4, .ref a5, .ref a6, .ref a7, .ref a8, .ref a9])), (oa, .inl (cy 3, 1, .inr (.inl og)))] sz) := by
  refine vx_ofWH (cc := cL_haveConflict) (maxL := 5) (ret := (some .int)) (hh := [(0, 17, 20, 21)]) (by decide) rfl ?_
  intro p e s m args below meth c s₁ B hml hv
  have htb := vx_table (x := objectInit) B (atoms_spec (ws := wzL_haveConflict) B.pre _ List.mem_cons_self)
  obtain ⟨rfl, hsz, hP, hK, hD0, hZ, hN⟩ := hv
  have hx := B.exec
  have hb := B.bytes
  have hr := B.returns
  have hts := atoms_spec (ws := wzL_haveConflict) B.pre
  have hown : s.vm.findClass RL = some m.cls := findClass_of_methodNamed B.named
  have hlocks := B.notSynchronized
  subst hsz
  have hD := hD0.self (sz := s.heap.size)
  generalize hAe : va_A [(h, .inr (13, [.ref pe, .ref ne, .ref pa, .ref ro, .int dy])), (pe, .inr (9, [.int 0, .ref a1, .ref a2, .ref a3, .ref a4, .ref a5, .ref a6, .ref a7, .ref a8, .ref a9])), (oa, .inl (cy 3, 1, .inr (.inl og)))] s.heap.size = A at hD hZ ⊢
  have hA : ∀ q : Nat, s.heap.size ≤ q → A q := fun q h => by rw [← hAe]; exact Or.inr h
  have hS : va_S A s.heap s.heap [] := va_S.rf
  have hP : va_P D vwCl [(h, .inr (13, [.ref pe, .ref ne, .ref pa, .ref ro, .int dy])), (pe, .inr (9, [.int 0, .ref a1, .ref a2, .ref a3, .ref a4, .ref a5, .ref a6, .ref a7, .ref a8, .ref a9])), (oa, .inl (cy 3, 1, .inr (.inl og)))] s.heap := hP
  have hl := lv_entry ([.ref h, .int p0, .int p1, .ref oa]) (n := 5) (Nat.le_of_ble_eq_true rfl)
  rw [lg_entry_eq]
  generalize (lg_sl ([.ref h, .int p0, .int p1, .ref oa]) ++ List.replicate (5 - (lg_sl ([.ref h, .int p0, .int p1, .ref oa])).length) Slot.unset).toArray = ls at hl ⊢
  have hl : lv_has ls 5 [(0, .ref h), (1, .int p0), (2, .int p1), (3, .ref oa)] := hl
  refine lv_aload_n hx hb dL_haveConflict_0 rfl (lv_at hl 3 rfl) ?_
  refine lv_iconst (v := 0) hx hb dL_haveConflict_1 (by decide) ?_
  refine lv_aload_n hx hb dL_haveConflict_2 rfl (lv_at hl 0 rfl) ?_
  refine lv_iload_n hx hb dL_haveConflict_3 rfl (lv_at hl 1 rfl) ?_
  refine lv_iload_n hx hb dL_haveConflict_4 rfl (lv_at hl 2 rfl) ?_
  have hPc := hP.sub (ws' := [(h, .inr (13, [.ref pe, .ref ne, .ref pa, .ref ro, .int dy])), (pe, .inr (9, [.int 0, .ref a1, .ref a2, .ref a3, .ref a4, .ref a5, .ref a6, .ref a7, .ref a8, .ref a9]))]) [0, 1] rfl
  have hDc := hD.sub (ws' := [(h, .inr (13, [.ref pe, .ref ne, .ref pa, .ref ro, .int dy])), (pe, .inr (9, [.int 0, .ref a1, .ref a2, .ref a3, .ref a4, .ref a5, .ref a6, .ref a7, .ref a8, .ref a9]))]) [0, 1] (by decide) rfl
  have hFc := va_free (wc := [(h, .inr (13, [.ref pe, .ref ne, .ref pa, .ref ro, .int dy])), (pe, .inr (9, [.int 0, .ref a1, .ref a2, .ref a3, .ref a4, .ref a5, .ref a6, .ref a7, .ref a8, .ref a9]))]) hD hS hA [0, 1] rfl
  refine vx_calli (vx_runV (As := [.int p0, .int p1]) (rest := [.int 0, .ref oa]) ⟨hx, hb, hml, hown, hts⟩ (c_X8_haveConflict l hst D cy ed s.heap.size h pe ne pa ro dy a1 a2 a3 a4 a5 a6 a7 a8 a9 p0 p1) (cwV 2 hts (zx_GV mm_511 mm_512 mm_513 mm_71 mm_514) rfl rfl rfl (by decide +kernel) ⟨(Nat.le_of_ble_eq_true rfl), (Nat.le_of_ble_eq_true rfl)⟩) ⟨zx_blind, va_recv hK hPc (ci := 13) (q0 := 0) rfl rfl, zx_give hPc hK hDc hS hFc hZ hN⟩ rfl rfl hl.1 rfl (lv_room (Nat.le_of_ble_eq_true rfl)) dL_haveConflict_5 ⟨(Nat.le_of_ble_eq_true rfl), (Nat.le_of_ble_eq_true rfl)⟩) hS (fun q _ h => hFc q h) hFc (fun q _ h => hFc q h) (fun E9 ce9 q9 _ t H locs ht hvm _ hBX hz1 hk1 hS hce hcv hcl => ?_) (fun r9 u t H locs ht hvm hw hB hz1 hk1 hS => ?_)
  · have hBX : (fun E9 => E9 = "java/lang/IndexOutOfBoundsException") E9 := hBX
    obtain rfl := hBX
    refine vx_catch hown [] { startPc := 0, endPc := 17, handlerPc := 20, catchType := 21 } [] (by rw [htb]; rfl) (fun z9 h9 => absurd h9 List.not_mem_nil) (by decide) (by decide) (hts (.classLink RL 21 "java/lang/IndexOutOfBoundsException") (zx_Gc mm_432)) (zx_cast_moved (Vm.Alike.refl _) (hN.2.2.1 _ _ (List.mem_of_getElem? (i := 475) (by decide +kernel)))) hce hcv hcl ?_
    obtain ⟨hP, hD⟩ := va_join (wr := [(oa, .inl (cy 3, 1, .inr (.inl og)))]) (w1 := []) hP hD [0, 1] [2] rfl rfl (by decide) (by decide) hk1 hFc zx_P0 zx_D0
    have hP : va_P D vwCl [(oa, .inl (cy 3, 1, .inr (.inl og)))] H := hP
    have hD : va_D A [(oa, .inl (cy 3, 1, .inr (.inl og)))] := hD
    refine W.widen (k := 1) (n := 6) (Nat.le_of_ble_eq_true rfl) (Nat.le_of_ble_eq_true rfl) ?_
    refine lv_astore (lv' := [(4, .ref q9), (0, .ref h), (1, .int p0), (2, .int p1), (3, .ref oa)]) hx hb dL_haveConflict_20 hl (by decide) rfl (fun ls hl => ?_)
    refine lv_iconst (v := 1) hx hb dL_haveConflict_22 (by decide) ?_
    have hP9 := hP.sub (ws' := []) [] rfl
    have hD9 := hD.sub (ws' := []) [] (by decide) rfl
    refine vx_ret ?_
    exact W.iret (v := 1) hx hb hr (fun t ht hW => ⟨⟨1, (), rfl, rfl, zx_fin hP9 hD9 hK ht hW⟩, hS.F ht⟩) hS.2.2 dL_haveConflict_23
  · exact hw.elim
set_option maxHeartbeats 4000000 in
set_option maxRecDepth 100000 in
theorem c_L_sendAway (l : Launch) (hst : l.stackTraces = false) (D : va_G) (cy : Nat → ClassId) (ed sz : Nat) (h : Nat) (pe : Nat) (ne : Nat) (pa : Nat) (ro : Nat) (dy : Int32) (a1 : Nat) (a2 : Nat) (a3 : Nat) (a4 : Nat) (a5 : Nat) (a6 : Nat) (a7 : Nat) (a8 : Nat) (a9 : Nat) (oa : Nat) (og : Nat → Int64) (p0 : Int32) (p1 : Int32) : vx_Met l yL_sendAway wzL_sendAway ({ frames := 8, cells := 1, slots := 6, locals := 124 }) (zx_Pc D cy ed sz [.ref h, .int p0, .int p1, .ref oa] [(h, .inr (13, [.ref pe, .ref ne, .ref pa, .ref ro, .int dy])), (pe, .inr (9, [.int 0, .ref a1, .ref a2, .ref a3, .ref a4, .ref a5, .ref a6, .ref a7, .ref a8, .ref a9])), (oa, .inl (cy 3, 1, .inr (.inl og)))]) (va_Qi (fun (r9 : Int32) (u9 : Unit) => r9 = 1) (fun (u9 : Unit) (t9 : State) => zx_At D cy (va_A [(h, .inr (13, [.ref pe, .ref ne, .ref pa, .ref ro, .int dy])), (pe, .inr (9, [.int 0, .ref a1, .ref a2, .ref a3, .ref a4, .ref a5, .ref a6, .ref a7, .ref a8, .ref a9])), (oa, .inl (cy 3, 1, .inr (.inl og)))] sz) [] t9) (va_A [(h, .inr (13, [.ref pe, .ref ne, .ref pa, .ref ro, .int dy])), (pe, .inr (9, [.int 0, .ref a1, .ref a2, .ref a3, .ref a4, .ref a5, .ref a6, .ref a7, .ref a8, .ref a9])), (oa, .inl (cy 3, 1, .inr (.inl og)))] sz)) (zx_X (fun _ => False) (va_A [(h, .inr (13, [.ref pe, .ref ne, .ref pa, .ref ro, .int dy])), (pe, .inr (9, [.int 0, .ref a1, .ref a2, .ref a3, .ref a4, .ref a5, .ref a6, .ref a7, .ref a8, .ref a9])), (oa, .inl (cy 3, 1, .inr (.inl og)))] sz)) 1 6 (va_A [(h, .inr (13, [.ref pe, .ref ne, .ref pa, .ref ro, .int dy])), (pe, .inr (9, [.int 0, .ref a1, .ref a2, .ref a3, .ref a4, .ref a5, .ref a6, .ref a7, .ref a8, .ref a9])), (oa, .inl (cy 3, 1, .inr (.inl og)))] sz) := by
  refine vx_ofWH (cc := cL_sendAway) (maxL := 5) (ret := (some .int)) (hh := [(0, 10, 13, 21), (0, 10, 17, 13)]) (by decide) rfl ?_
  intro p e s m args below meth c s₁ B hml hv
  have htb := vx_table (x := objectInit) B (atoms_spec (ws := wzL_sendAway) B.pre _ List.mem_cons_self)
  obtain ⟨rfl, hsz, hP, hK, hD0, hZ, hN⟩ := hv
  have hx := B.exec
  have hb := B.bytes
  have hr := B.returns
  have hts := atoms_spec (ws := wzL_sendAway) B.pre
  have hown : s.vm.findClass RL = some m.cls := findClass_of_methodNamed B.named
  have hlocks := B.notSynchronized
  subst hsz
  have hD := hD0.self (sz := s.heap.size)
  generalize hAe : va_A [(h, .inr (13, [.ref pe, .ref ne, .ref pa, .ref ro, .int dy])), (pe, .inr (9, [.int 0, .ref a1, .ref a2, .ref a3, .ref a4, .ref a5, .ref a6, .ref a7, .ref a8, .ref a9])), (oa, .inl (cy 3, 1, .inr (.inl og)))] s.heap.size = A at hD hZ ⊢
  have hA : ∀ q : Nat, s.heap.size ≤ q → A q := fun q h => by rw [← hAe]; exact Or.inr h
  have hS : va_S A s.heap s.heap [] := va_S.rf
  have hP : va_P D vwCl [(h, .inr (13, [.ref pe, .ref ne, .ref pa, .ref ro, .int dy])), (pe, .inr (9, [.int 0, .ref a1, .ref a2, .ref a3, .ref a4, .ref a5, .ref a6, .ref a7, .ref a8, .ref a9])), (oa, .inl (cy 3, 1, .inr (.inl og)))] s.heap := hP
  have hl := lv_entry ([.ref h, .int p0, .int p1, .ref oa]) (n := 5) (Nat.le_of_ble_eq_true rfl)
  rw [lg_entry_eq]
  generalize (lg_sl ([.ref h, .int p0, .int p1, .ref oa]) ++ List.replicate (5 - (lg_sl ([.ref h, .int p0, .int p1, .ref oa])).length) Slot.unset).toArray = ls at hl ⊢
  have hl : lv_has ls 5 [(0, .ref h), (1, .int p0), (2, .int p1), (3, .ref oa)] := hl
  refine lv_aload_n hx hb dL_sendAway_0 rfl (lv_at hl 3 rfl) ?_
  refine lv_iconst (v := 0) hx hb dL_sendAway_1 (by decide) ?_
  refine lv_aload_n hx hb dL_sendAway_2 rfl (lv_at hl 0 rfl) ?_
  refine lv_iload_n hx hb dL_sendAway_3 rfl (lv_at hl 1 rfl) ?_
  refine lv_iload_n hx hb dL_sendAway_4 rfl (lv_at hl 2 rfl) ?_
  have hPc := hP.sub (ws' := [(h, .inr (13, [.ref pe, .ref ne, .ref pa, .ref ro, .int dy])), (pe, .inr (9, [.int 0, .ref a1, .ref a2, .ref a3, .ref a4, .ref a5, .ref a6, .ref a7, .ref a8, .ref a9]))]) [0, 1] rfl
  have hDc := hD.sub (ws' := [(h, .inr (13, [.ref pe, .ref ne, .ref pa, .ref ro, .int dy])), (pe, .inr (9, [.int 0, .ref a1, .ref a2, .ref a3, .ref a4, .ref a5, .ref a6, .ref a7, .ref a8, .ref a9]))]) [0, 1] (by decide) rfl
  have hFc := va_free (wc := [(h, .inr (13, [.ref pe, .ref ne, .ref pa, .ref ro, .int dy])), (pe, .inr (9, [.int 0, .ref a1, .ref a2, .ref a3, .ref a4, .ref a5, .ref a6, .ref a7, .ref a8, .ref a9]))]) hD hS hA [0, 1] rfl
  refine vx_calli (vx_runV (As := [.int p0, .int p1]) (rest := [.int 0, .ref oa]) ⟨hx, hb, hml, hown, hts⟩ (c_X8_sendAway l hst D cy ed s.heap.size h pe ne pa ro dy a1 a2 a3 a4 a5 a6 a7 a8 a9 p0 p1) (cwV 2 hts (zx_GV mm_518 mm_519 mm_520 mm_71 mm_521) rfl rfl rfl (by decide +kernel) ⟨(Nat.le_of_ble_eq_true rfl), (Nat.le_of_ble_eq_true rfl)⟩) ⟨zx_blind, va_recv hK hPc (ci := 13) (q0 := 0) rfl rfl, zx_give hPc hK hDc hS hFc hZ hN⟩ rfl rfl hl.1 rfl (lv_room (Nat.le_of_ble_eq_true rfl)) dL_sendAway_5 ⟨(Nat.le_of_ble_eq_true rfl), (Nat.le_of_ble_eq_true rfl)⟩) hS (fun q _ h => hFc q h) hFc (fun q _ h => hFc q h) (fun E9 ce9 q9 _ t H locs ht hvm _ hBX hz1 hk1 hS hce hcv hcl => ?_) (fun r9 u t H locs ht hvm hw hB hz1 hk1 hS => ?_)
  · have hBX : (fun E9 => E9 = "java/lang/IndexOutOfBoundsException") E9 := hBX
    obtain rfl := hBX
    refine vx_catch hown [] { startPc := 0, endPc := 10, handlerPc := 13, catchType := 21 } [({ startPc := 0, endPc := 10, handlerPc := 17, catchType := 13 } : ExceptionTableEntry)] (by rw [htb]; rfl) (fun z9 h9 => absurd h9 List.not_mem_nil) (by decide) (by decide) (hts (.classLink RL 21 "java/lang/IndexOutOfBoundsException") (zx_Gc mm_432)) (zx_cast_moved (Vm.Alike.refl _) (hN.2.2.1 _ _ (List.mem_of_getElem? (i := 475) (by decide +kernel)))) hce hcv hcl ?_
    obtain ⟨hP, hD⟩ := va_join (wr := [(oa, .inl (cy 3, 1, .inr (.inl og)))]) (w1 := []) hP hD [0, 1] [2] rfl rfl (by decide) (by decide) hk1 hFc zx_P0 zx_D0
    have hP : va_P D vwCl [(oa, .inl (cy 3, 1, .inr (.inl og)))] H := hP
    have hD : va_D A [(oa, .inl (cy 3, 1, .inr (.inl og)))] := hD
    refine W.widen (k := 1) (n := 6) (Nat.le_of_ble_eq_true rfl) (Nat.le_of_ble_eq_true rfl) ?_
    refine lv_astore (lv' := [(4, .ref q9), (0, .ref h), (1, .int p0), (2, .int p1), (3, .ref oa)]) hx hb dL_sendAway_13 hl (by decide) rfl (fun ls hl => ?_)
    refine lv_iconst (v := 1) hx hb dL_sendAway_15 (by decide) ?_
    have hP9 := hP.sub (ws' := []) [] rfl
    have hD9 := hD.sub (ws' := []) [] (by decide) rfl
    refine vx_ret ?_
    exact W.iret (v := 1) hx hb hr (fun t ht hW => ⟨⟨1, (), rfl, rfl, zx_fin hP9 hD9 hK ht hW⟩, hS.F ht⟩) hS.2.2 dL_sendAway_16
  · exact hw.elim
set_option maxHeartbeats 4000000 in
set_option maxRecDepth 100000 in
theorem c_L_addEditor (l : Launch) (hst : l.stackTraces = false) (D : va_G) (cy : Nat → ClassId) (ed sz : Nat) (h : Nat) (pe : Nat) (ne : Nat) (pa : Nat) (ro : Nat) (dy : Int32) (a1 : Nat) (a2 : Nat) (a3 : Nat) (a4 : Nat) (a5 : Nat) (a6 : Nat) (a7 : Nat) (a8 : Nat) (a9 : Nat) (oa : Nat) (og : Nat → Int64) (p0 : Int32) (p1 : Int32) : vx_Met l yL_addEditor wzL_addEditor ({ frames := 8, cells := 1, slots := 6, locals := 124 }) (zx_Pc D cy ed sz [.ref h, .int p0, .int p1, .ref oa] [(h, .inr (13, [.ref pe, .ref ne, .ref pa, .ref ro, .int dy])), (pe, .inr (9, [.int 0, .ref a1, .ref a2, .ref a3, .ref a4, .ref a5, .ref a6, .ref a7, .ref a8, .ref a9])), (oa, .inl (cy 3, 1, .inr (.inl og)))]) (va_Qi (fun (r9 : Int32) (u9 : Unit) => r9 = 1) (fun (u9 : Unit) (t9 : State) => zx_At D cy (va_A [(h, .inr (13, [.ref pe, .ref ne, .ref pa, .ref ro, .int dy])), (pe, .inr (9, [.int 0, .ref a1, .ref a2, .ref a3, .ref a4, .ref a5, .ref a6, .ref a7, .ref a8, .ref a9])), (oa, .inl (cy 3, 1, .inr (.inl og)))] sz) [] t9) (va_A [(h, .inr (13, [.ref pe, .ref ne, .ref pa, .ref ro, .int dy])), (pe, .inr (9, [.int 0, .ref a1, .ref a2, .ref a3, .ref a4, .ref a5, .ref a6, .ref a7, .ref a8, .ref a9])), (oa, .inl (cy 3, 1, .inr (.inl og)))] sz)) (zx_X (fun _ => False) (va_A [(h, .inr (13, [.ref pe, .ref ne, .ref pa, .ref ro, .int dy])), (pe, .inr (9, [.int 0, .ref a1, .ref a2, .ref a3, .ref a4, .ref a5, .ref a6, .ref a7, .ref a8, .ref a9])), (oa, .inl (cy 3, 1, .inr (.inl og)))] sz)) 1 6 (va_A [(h, .inr (13, [.ref pe, .ref ne, .ref pa, .ref ro, .int dy])), (pe, .inr (9, [.int 0, .ref a1, .ref a2, .ref a3, .ref a4, .ref a5, .ref a6, .ref a7, .ref a8, .ref a9])), (oa, .inl (cy 3, 1, .inr (.inl og)))] sz) := by
  refine vx_ofWH (cc := cL_addEditor) (maxL := 5) (ret := (some .int)) (hh := [(0, 10, 13, 21), (0, 10, 17, 13)]) (by decide) rfl ?_
  intro p e s m args below meth c s₁ B hml hv
  have htb := vx_table (x := objectInit) B (atoms_spec (ws := wzL_addEditor) B.pre _ List.mem_cons_self)
  obtain ⟨rfl, hsz, hP, hK, hD0, hZ, hN⟩ := hv
  have hx := B.exec
  have hb := B.bytes
  have hr := B.returns
  have hts := atoms_spec (ws := wzL_addEditor) B.pre
  have hown : s.vm.findClass RL = some m.cls := findClass_of_methodNamed B.named
  have hlocks := B.notSynchronized
  subst hsz
  have hD := hD0.self (sz := s.heap.size)
  generalize hAe : va_A [(h, .inr (13, [.ref pe, .ref ne, .ref pa, .ref ro, .int dy])), (pe, .inr (9, [.int 0, .ref a1, .ref a2, .ref a3, .ref a4, .ref a5, .ref a6, .ref a7, .ref a8, .ref a9])), (oa, .inl (cy 3, 1, .inr (.inl og)))] s.heap.size = A at hD hZ ⊢
  have hA : ∀ q : Nat, s.heap.size ≤ q → A q := fun q h => by rw [← hAe]; exact Or.inr h
  have hS : va_S A s.heap s.heap [] := va_S.rf
  have hP : va_P D vwCl [(h, .inr (13, [.ref pe, .ref ne, .ref pa, .ref ro, .int dy])), (pe, .inr (9, [.int 0, .ref a1, .ref a2, .ref a3, .ref a4, .ref a5, .ref a6, .ref a7, .ref a8, .ref a9])), (oa, .inl (cy 3, 1, .inr (.inl og)))] s.heap := hP
  have hl := lv_entry ([.ref h, .int p0, .int p1, .ref oa]) (n := 5) (Nat.le_of_ble_eq_true rfl)
  rw [lg_entry_eq]
  generalize (lg_sl ([.ref h, .int p0, .int p1, .ref oa]) ++ List.replicate (5 - (lg_sl ([.ref h, .int p0, .int p1, .ref oa])).length) Slot.unset).toArray = ls at hl ⊢
  have hl : lv_has ls 5 [(0, .ref h), (1, .int p0), (2, .int p1), (3, .ref oa)] := hl
  refine lv_aload_n hx hb dL_addEditor_0 rfl (lv_at hl 3 rfl) ?_
  refine lv_iconst (v := 0) hx hb dL_addEditor_1 (by decide) ?_
  refine lv_aload_n hx hb dL_addEditor_2 rfl (lv_at hl 0 rfl) ?_
  refine lv_iload_n hx hb dL_addEditor_3 rfl (lv_at hl 1 rfl) ?_
  refine lv_iload_n hx hb dL_addEditor_4 rfl (lv_at hl 2 rfl) ?_
  have hPc := hP.sub (ws' := [(h, .inr (13, [.ref pe, .ref ne, .ref pa, .ref ro, .int dy])), (pe, .inr (9, [.int 0, .ref a1, .ref a2, .ref a3, .ref a4, .ref a5, .ref a6, .ref a7, .ref a8, .ref a9]))]) [0, 1] rfl
  have hDc := hD.sub (ws' := [(h, .inr (13, [.ref pe, .ref ne, .ref pa, .ref ro, .int dy])), (pe, .inr (9, [.int 0, .ref a1, .ref a2, .ref a3, .ref a4, .ref a5, .ref a6, .ref a7, .ref a8, .ref a9]))]) [0, 1] (by decide) rfl
  have hFc := va_free (wc := [(h, .inr (13, [.ref pe, .ref ne, .ref pa, .ref ro, .int dy])), (pe, .inr (9, [.int 0, .ref a1, .ref a2, .ref a3, .ref a4, .ref a5, .ref a6, .ref a7, .ref a8, .ref a9]))]) hD hS hA [0, 1] rfl
  refine vx_calli (vx_runV (As := [.int p0, .int p1]) (rest := [.int 0, .ref oa]) ⟨hx, hb, hml, hown, hts⟩ (c_X8_addEditor l hst D cy ed s.heap.size h pe ne pa ro dy a1 a2 a3 a4 a5 a6 a7 a8 a9 p0 p1) (cwV 2 hts (zx_GV mm_525 mm_526 mm_527 mm_71 mm_528) rfl rfl rfl (by decide +kernel) ⟨(Nat.le_of_ble_eq_true rfl), (Nat.le_of_ble_eq_true rfl)⟩) ⟨zx_blind, va_recv hK hPc (ci := 13) (q0 := 0) rfl rfl, zx_give hPc hK hDc hS hFc hZ hN⟩ rfl rfl hl.1 rfl (lv_room (Nat.le_of_ble_eq_true rfl)) dL_addEditor_5 ⟨(Nat.le_of_ble_eq_true rfl), (Nat.le_of_ble_eq_true rfl)⟩) hS (fun q _ h => hFc q h) hFc (fun q _ h => hFc q h) (fun E9 ce9 q9 _ t H locs ht hvm _ hBX hz1 hk1 hS hce hcv hcl => ?_) (fun r9 u t H locs ht hvm hw hB hz1 hk1 hS => ?_)
  · have hBX : (fun E9 => E9 = "java/lang/IndexOutOfBoundsException") E9 := hBX
    obtain rfl := hBX
    refine vx_catch hown [] { startPc := 0, endPc := 10, handlerPc := 13, catchType := 21 } [({ startPc := 0, endPc := 10, handlerPc := 17, catchType := 13 } : ExceptionTableEntry)] (by rw [htb]; rfl) (fun z9 h9 => absurd h9 List.not_mem_nil) (by decide) (by decide) (hts (.classLink RL 21 "java/lang/IndexOutOfBoundsException") (zx_Gc mm_432)) (zx_cast_moved (Vm.Alike.refl _) (hN.2.2.1 _ _ (List.mem_of_getElem? (i := 475) (by decide +kernel)))) hce hcv hcl ?_
    obtain ⟨hP, hD⟩ := va_join (wr := [(oa, .inl (cy 3, 1, .inr (.inl og)))]) (w1 := []) hP hD [0, 1] [2] rfl rfl (by decide) (by decide) hk1 hFc zx_P0 zx_D0
    have hP : va_P D vwCl [(oa, .inl (cy 3, 1, .inr (.inl og)))] H := hP
    have hD : va_D A [(oa, .inl (cy 3, 1, .inr (.inl og)))] := hD
    refine W.widen (k := 1) (n := 6) (Nat.le_of_ble_eq_true rfl) (Nat.le_of_ble_eq_true rfl) ?_
    refine lv_astore (lv' := [(4, .ref q9), (0, .ref h), (1, .int p0), (2, .int p1), (3, .ref oa)]) hx hb dL_addEditor_13 hl (by decide) rfl (fun ls hl => ?_)
    refine lv_iconst (v := 1) hx hb dL_addEditor_15 (by decide) ?_
    have hP9 := hP.sub (ws' := []) [] rfl
    have hD9 := hD.sub (ws' := []) [] (by decide) rfl
    refine vx_ret ?_
    exact W.iret (v := 1) hx hb hr (fun t ht hW => ⟨⟨1, (), rfl, rfl, zx_fin hP9 hD9 hK ht hW⟩, hS.F ht⟩) hS.2.2 dL_addEditor_16
  · exact hw.elim
set_option maxHeartbeats 4000000 in
set_option maxRecDepth 100000 in
theorem c_L_begin (l : Launch) (hst : l.stackTraces = false) (D : va_G) (cy : Nat → ClassId) (ed sz : Nat) (h : Nat) (pe : Nat) (ne : Nat) (pa : Nat) (ro : Nat) (dy : Int32) (a1 : Nat) (a2 : Nat) (a3 : Nat) (a4 : Nat) (a5 : Nat) (a6 : Nat) (a7 : Nat) (a8 : Nat) (a9 : Nat) (oa : Nat) (og : Nat → Int64) (p0 : Int32) (p1 : Int32) (p2 : Int32) : vx_Met l yL_begin wzL_begin ({ frames := 8, cells := 1, slots := 6, locals := 126 }) (zx_Pc D cy ed sz [.ref h, .int p0, .int p1, .int p2, .ref oa] [(h, .inr (13, [.ref pe, .ref ne, .ref pa, .ref ro, .int dy])), (pe, .inr (9, [.int 0, .ref a1, .ref a2, .ref a3, .ref a4, .ref a5, .ref a6, .ref a7, .ref a8, .ref a9])), (oa, .inl (cy 3, 1, .inr (.inl og)))]) (va_Qi (fun (r9 : Int32) (u9 : Unit) => r9 = 1) (fun (u9 : Unit) (t9 : State) => zx_At D cy (va_A [(h, .inr (13, [.ref pe, .ref ne, .ref pa, .ref ro, .int dy])), (pe, .inr (9, [.int 0, .ref a1, .ref a2, .ref a3, .ref a4, .ref a5, .ref a6, .ref a7, .ref a8, .ref a9])), (oa, .inl (cy 3, 1, .inr (.inl og)))] sz) [] t9) (va_A [(h, .inr (13, [.ref pe, .ref ne, .ref pa, .ref ro, .int dy])), (pe, .inr (9, [.int 0, .ref a1, .ref a2, .ref a3, .ref a4, .ref a5, .ref a6, .ref a7, .ref a8, .ref a9])), (oa, .inl (cy 3, 1, .inr (.inl og)))] sz)) (zx_X (fun _ => False) (va_A [(h, .inr (13, [.ref pe, .ref ne, .ref pa, .ref ro, .int dy])), (pe, .inr (9, [.int 0, .ref a1, .ref a2, .ref a3, .ref a4, .ref a5, .ref a6, .ref a7, .ref a8, .ref a9])), (oa, .inl (cy 3, 1, .inr (.inl og)))] sz)) 1 6 (va_A [(h, .inr (13, [.ref pe, .ref ne, .ref pa, .ref ro, .int dy])), (pe, .inr (9, [.int 0, .ref a1, .ref a2, .ref a3, .ref a4, .ref a5, .ref a6, .ref a7, .ref a8, .ref a9])), (oa, .inl (cy 3, 1, .inr (.inl og)))] sz) := by
  refine vx_ofWH (cc := cL_begin) (maxL := 6) (ret := (some .int)) (hh := [(0, 12, 15, 21), (0, 12, 19, 13), (0, 12, 23, 15)]) (by decide) rfl ?_
  intro p e s m args below meth c s₁ B hml hv
  have htb := vx_table (x := objectInit) B (atoms_spec (ws := wzL_begin) B.pre _ List.mem_cons_self)
  obtain ⟨rfl, hsz, hP, hK, hD0, hZ, hN⟩ := hv
  have hx := B.exec
  have hb := B.bytes
  have hr := B.returns
  have hts := atoms_spec (ws := wzL_begin) B.pre
  have hown : s.vm.findClass RL = some m.cls := findClass_of_methodNamed B.named
  have hlocks := B.notSynchronized
  subst hsz
  have hD := hD0.self (sz := s.heap.size)
  generalize hAe : va_A [(h, .inr (13, [.ref pe, .ref ne, .ref pa, .ref ro, .int dy])), (pe, .inr (9, [.int 0, .ref a1, .ref a2, .ref a3, .ref a4, .ref a5, .ref a6, .ref a7, .ref a8, .ref a9])), (oa, .inl (cy 3, 1, .inr (.inl og)))] s.heap.size = A at hD hZ ⊢
  have hA : ∀ q : Nat, s.heap.size ≤ q → A q := fun q h => by rw [← hAe]; exact Or.inr h
  have hS : va_S A s.heap s.heap [] := va_S.rf
  have hP : va_P D vwCl [(h, .inr (13, [.ref pe, .ref ne, .ref pa, .ref ro, .int dy])), (pe, .inr (9, [.int 0, .ref a1, .ref a2, .ref a3, .ref a4, .ref a5, .ref a6, .ref a7, .ref a8, .ref a9])), (oa, .inl (cy 3, 1, .inr (.inl og)))] s.heap := hP
  have hl := lv_entry ([.ref h, .int p0, .int p1, .int p2, .ref oa]) (n := 6) (Nat.le_of_ble_eq_true rfl)
  rw [lg_entry_eq]
  generalize (lg_sl ([.ref h, .int p0, .int p1, .int p2, .ref oa]) ++ List.replicate (6 - (lg_sl ([.ref h, .int p0, .int p1, .int p2, .ref oa])).length) Slot.unset).toArray = ls at hl ⊢
  have hl : lv_has ls 6 [(0, .ref h), (1, .int p0), (2, .int p1), (3, .int p2), (4, .ref oa)] := hl
  refine lv_aload hx hb dL_begin_0 (lv_at hl 4 rfl) ?_
  refine lv_iconst (v := 0) hx hb dL_begin_2 (by decide) ?_
  refine lv_aload_n hx hb dL_begin_3 rfl (lv_at hl 0 rfl) ?_
  refine lv_iload_n hx hb dL_begin_4 rfl (lv_at hl 1 rfl) ?_
  refine lv_iload_n hx hb dL_begin_5 rfl (lv_at hl 2 rfl) ?_
  refine lv_iload_n hx hb dL_begin_6 rfl (lv_at hl 3 rfl) ?_
  have hPc := hP.sub (ws' := [(h, .inr (13, [.ref pe, .ref ne, .ref pa, .ref ro, .int dy])), (pe, .inr (9, [.int 0, .ref a1, .ref a2, .ref a3, .ref a4, .ref a5, .ref a6, .ref a7, .ref a8, .ref a9]))]) [0, 1] rfl
  have hDc := hD.sub (ws' := [(h, .inr (13, [.ref pe, .ref ne, .ref pa, .ref ro, .int dy])), (pe, .inr (9, [.int 0, .ref a1, .ref a2, .ref a3, .ref a4, .ref a5, .ref a6, .ref a7, .ref a8, .ref a9]))]) [0, 1] (by decide) rfl
  have hFc := va_free (wc := [(h, .inr (13, [.ref pe, .ref ne, .ref pa, .ref ro, .int dy])), (pe, .inr (9, [.int 0, .ref a1, .ref a2, .ref a3, .ref a4, .ref a5, .ref a6, .ref a7, .ref a8, .ref a9]))]) hD hS hA [0, 1] rfl
  refine vx_calli (vx_runV (As := [.int p0, .int p1, .int p2]) (rest := [.int 0, .ref oa]) ⟨hx, hb, hml, hown, hts⟩ (c_X8_begin l hst D cy ed s.heap.size h pe ne pa ro dy a1 a2 a3 a4 a5 a6 a7 a8 a9 p0 p1 p2) (cwV 3 hts (zx_GV mm_568 mm_569 mm_570 mm_71 mm_571) rfl rfl rfl (by decide +kernel) ⟨(Nat.le_of_ble_eq_true rfl), (Nat.le_of_ble_eq_true rfl)⟩) ⟨zx_blind, va_recv hK hPc (ci := 13) (q0 := 0) rfl rfl, zx_give hPc hK hDc hS hFc hZ hN⟩ rfl rfl hl.1 rfl (lv_room (Nat.le_of_ble_eq_true rfl)) dL_begin_7 ⟨(Nat.le_of_ble_eq_true rfl), (Nat.le_of_ble_eq_true rfl)⟩) hS (fun q _ h => hFc q h) hFc (fun q _ h => hFc q h) (fun E9 ce9 q9 _ t H locs ht hvm _ hBX hz1 hk1 hS hce hcv hcl => ?_) (fun r9 u t H locs ht hvm hw hB hz1 hk1 hS => ?_)
  · have hBX : (fun E9 => E9 = "java/lang/IndexOutOfBoundsException") E9 := hBX
    obtain rfl := hBX
    refine vx_catch hown [] { startPc := 0, endPc := 12, handlerPc := 15, catchType := 21 } [({ startPc := 0, endPc := 12, handlerPc := 19, catchType := 13 } : ExceptionTableEntry), ({ startPc := 0, endPc := 12, handlerPc := 23, catchType := 15 } : ExceptionTableEntry)] (by rw [htb]; rfl) (fun z9 h9 => absurd h9 List.not_mem_nil) (by decide) (by decide) (hts (.classLink RL 21 "java/lang/IndexOutOfBoundsException") (zx_Gc mm_432)) (zx_cast_moved (Vm.Alike.refl _) (hN.2.2.1 _ _ (List.mem_of_getElem? (i := 475) (by decide +kernel)))) hce hcv hcl ?_
    obtain ⟨hP, hD⟩ := va_join (wr := [(oa, .inl (cy 3, 1, .inr (.inl og)))]) (w1 := []) hP hD [0, 1] [2] rfl rfl (by decide) (by decide) hk1 hFc zx_P0 zx_D0
    have hP : va_P D vwCl [(oa, .inl (cy 3, 1, .inr (.inl og)))] H := hP
    have hD : va_D A [(oa, .inl (cy 3, 1, .inr (.inl og)))] := hD
    refine W.widen (k := 1) (n := 6) (Nat.le_of_ble_eq_true rfl) (Nat.le_of_ble_eq_true rfl) ?_
    refine lv_astore (lv' := [(5, .ref q9), (0, .ref h), (1, .int p0), (2, .int p1), (3, .int p2), (4, .ref oa)]) hx hb dL_begin_15 hl (by decide) rfl (fun ls hl => ?_)
    refine lv_iconst (v := 1) hx hb dL_begin_17 (by decide) ?_
    have hP9 := hP.sub (ws' := []) [] rfl
    have hD9 := hD.sub (ws' := []) [] (by decide) rfl
    refine vx_ret ?_
    exact W.iret (v := 1) hx hb hr (fun t ht hW => ⟨⟨1, (), rfl, rfl, zx_fin hP9 hD9 hK ht hW⟩, hS.F ht⟩) hS.2.2 dL_begin_18
  · exact hw.elim
set_option maxHeartbeats 4000000 in
set_option maxRecDepth 100000 in
theorem c_L_addAuthor (l : Launch) (hst : l.stackTraces = false) (D : va_G) (cy : Nat → ClassId) (ed sz : Nat) (h : Nat) (pe : Nat) (ne : Nat) (pa : Nat) (ro : Nat) (dy : Int32) (mc : Int32) (el : Nat) (oa : Nat) (og : Nat → Int64) (p0 : Int32) (p1 : Int32) : vx_Met l yL_addAuthor wzL_addAuthor ({ frames := 9, cells := 1, slots := 6, locals := 147 }) (zx_Pc D cy ed sz [.ref h, .int p0, .int p1, .ref oa] [(h, .inr (13, [.ref pe, .ref ne, .ref pa, .ref ro, .int dy])), (pa, .inr (4, [.int mc, .ref el, .int 0])), (oa, .inl (cy 3, 1, .inr (.inl og)))]) (va_Qi (fun (r9 : Int32) (u9 : Unit) => r9 = 1) (fun (u9 : Unit) (t9 : State) => zx_At D cy (va_A [(h, .inr (13, [.ref pe, .ref ne, .ref pa, .ref ro, .int dy])), (pa, .inr (4, [.int mc, .ref el, .int 0])), (oa, .inl (cy 3, 1, .inr (.inl og)))] sz) [] t9) (va_A [(h, .inr (13, [.ref pe, .ref ne, .ref pa, .ref ro, .int dy])), (pa, .inr (4, [.int mc, .ref el, .int 0])), (oa, .inl (cy 3, 1, .inr (.inl og)))] sz)) (zx_X (fun _ => False) (va_A [(h, .inr (13, [.ref pe, .ref ne, .ref pa, .ref ro, .int dy])), (pa, .inr (4, [.int mc, .ref el, .int 0])), (oa, .inl (cy 3, 1, .inr (.inl og)))] sz)) 1 6 (va_A [(h, .inr (13, [.ref pe, .ref ne, .ref pa, .ref ro, .int dy])), (pa, .inr (4, [.int mc, .ref el, .int 0])), (oa, .inl (cy 3, 1, .inr (.inl og)))] sz) := by
  refine vx_ofWH (cc := cL_addAuthor) (maxL := 5) (ret := (some .int)) (hh := [(0, 10, 13, 21), (0, 10, 17, 45)]) (by decide) rfl ?_
  intro p e s m args below meth c s₁ B hml hv
  have htb := vx_table (x := objectInit) B (atoms_spec (ws := wzL_addAuthor) B.pre _ List.mem_cons_self)
  obtain ⟨rfl, hsz, hP, hK, hD0, hZ, hN⟩ := hv
  have hx := B.exec
  have hb := B.bytes
  have hr := B.returns
  have hts := atoms_spec (ws := wzL_addAuthor) B.pre
  have hown : s.vm.findClass RL = some m.cls := findClass_of_methodNamed B.named
  have hlocks := B.notSynchronized
  subst hsz
  have hD := hD0.self (sz := s.heap.size)
  generalize hAe : va_A [(h, .inr (13, [.ref pe, .ref ne, .ref pa, .ref ro, .int dy])), (pa, .inr (4, [.int mc, .ref el, .int 0])), (oa, .inl (cy 3, 1, .inr (.inl og)))] s.heap.size = A at hD hZ ⊢
  have hA : ∀ q : Nat, s.heap.size ≤ q → A q := fun q h => by rw [← hAe]; exact Or.inr h
  have hS : va_S A s.heap s.heap [] := va_S.rf
  have hP : va_P D vwCl [(h, .inr (13, [.ref pe, .ref ne, .ref pa, .ref ro, .int dy])), (pa, .inr (4, [.int mc, .ref el, .int 0])), (oa, .inl (cy 3, 1, .inr (.inl og)))] s.heap := hP
  have hl := lv_entry ([.ref h, .int p0, .int p1, .ref oa]) (n := 5) (Nat.le_of_ble_eq_true rfl)
  rw [lg_entry_eq]
  generalize (lg_sl ([.ref h, .int p0, .int p1, .ref oa]) ++ List.replicate (5 - (lg_sl ([.ref h, .int p0, .int p1, .ref oa])).length) Slot.unset).toArray = ls at hl ⊢
  have hl : lv_has ls 5 [(0, .ref h), (1, .int p0), (2, .int p1), (3, .ref oa)] := hl
  refine lv_aload_n hx hb dL_addAuthor_0 rfl (lv_at hl 3 rfl) ?_
  refine lv_iconst (v := 0) hx hb dL_addAuthor_1 (by decide) ?_
  refine lv_aload_n hx hb dL_addAuthor_2 rfl (lv_at hl 0 rfl) ?_
  refine lv_iload_n hx hb dL_addAuthor_3 rfl (lv_at hl 1 rfl) ?_
  refine lv_iload_n hx hb dL_addAuthor_4 rfl (lv_at hl 2 rfl) ?_
  have hPc := hP.sub (ws' := [(h, .inr (13, [.ref pe, .ref ne, .ref pa, .ref ro, .int dy])), (pa, .inr (4, [.int mc, .ref el, .int 0]))]) [0, 1] rfl
  have hDc := hD.sub (ws' := [(h, .inr (13, [.ref pe, .ref ne, .ref pa, .ref ro, .int dy])), (pa, .inr (4, [.int mc, .ref el, .int 0]))]) [0, 1] (by decide) rfl
  have hFc := va_free (wc := [(h, .inr (13, [.ref pe, .ref ne, .ref pa, .ref ro, .int dy])), (pa, .inr (4, [.int mc, .ref el, .int 0]))]) hD hS hA [0, 1] rfl
  refine vx_calli (vx_runV (As := [.int p0, .int p1]) (rest := [.int 0, .ref oa]) ⟨hx, hb, hml, hown, hts⟩ (c_X8_addAuthor l hst D cy ed s.heap.size h pe ne pa ro dy mc el p0 p1) (cwV 2 hts (zx_GV mm_841 mm_842 mm_843 mm_71 mm_844) rfl rfl rfl (by decide +kernel) ⟨(Nat.le_of_ble_eq_true rfl), (Nat.le_of_ble_eq_true rfl)⟩) ⟨zx_blind, va_recv hK hPc (ci := 13) (q0 := 0) rfl rfl, zx_give hPc hK hDc hS hFc hZ hN⟩ rfl rfl hl.1 rfl (lv_room (Nat.le_of_ble_eq_true rfl)) dL_addAuthor_5 ⟨(Nat.le_of_ble_eq_true rfl), (Nat.le_of_ble_eq_true rfl)⟩) hS (fun q _ h => hFc q h) hFc (fun q _ h => hFc q h) (fun E9 ce9 q9 _ t H locs ht hvm _ hBX hz1 hk1 hS hce hcv hcl => ?_) (fun r9 u t H locs ht hvm hw hB hz1 hk1 hS => ?_)
  · have hBX : (fun E9 => E9 = "java/lang/IndexOutOfBoundsException") E9 := hBX
    obtain rfl := hBX
    refine vx_catch hown [] { startPc := 0, endPc := 10, handlerPc := 13, catchType := 21 } [({ startPc := 0, endPc := 10, handlerPc := 17, catchType := 45 } : ExceptionTableEntry)] (by rw [htb]; rfl) (fun z9 h9 => absurd h9 List.not_mem_nil) (by decide) (by decide) (hts (.classLink RL 21 "java/lang/IndexOutOfBoundsException") (zx_Gc mm_432)) (zx_cast_moved (Vm.Alike.refl _) (hN.2.2.1 _ _ (List.mem_of_getElem? (i := 475) (by decide +kernel)))) hce hcv hcl ?_
    obtain ⟨hP, hD⟩ := va_join (wr := [(oa, .inl (cy 3, 1, .inr (.inl og)))]) (w1 := []) hP hD [0, 1] [2] rfl rfl (by decide) (by decide) hk1 hFc zx_P0 zx_D0
    have hP : va_P D vwCl [(oa, .inl (cy 3, 1, .inr (.inl og)))] H := hP
    have hD : va_D A [(oa, .inl (cy 3, 1, .inr (.inl og)))] := hD
    refine W.widen (k := 1) (n := 6) (Nat.le_of_ble_eq_true rfl) (Nat.le_of_ble_eq_true rfl) ?_
    refine lv_astore (lv' := [(4, .ref q9), (0, .ref h), (1, .int p0), (2, .int p1), (3, .ref oa)]) hx hb dL_addAuthor_13 hl (by decide) rfl (fun ls hl => ?_)
    refine lv_iconst (v := 1) hx hb dL_addAuthor_15 (by decide) ?_
    have hP9 := hP.sub (ws' := []) [] rfl
    have hD9 := hD.sub (ws' := []) [] (by decide) rfl
    refine vx_ret ?_
    exact W.iret (v := 1) hx hb hr (fun t ht hW => ⟨⟨1, (), rfl, rfl, zx_fin hP9 hD9 hK ht hW⟩, hS.F ht⟩) hS.2.2 dL_addAuthor_16
  · exact hw.elim
set_option maxHeartbeats 4000000 in
set_option maxRecDepth 100000 in
theorem c_L_dropAuthor (l : Launch) (hst : l.stackTraces = false) (D : va_G) (cy : Nat → ClassId) (ed sz : Nat) (h : Nat) (pe : Nat) (ne : Nat) (pa : Nat) (ro : Nat) (dy : Int32) (mc : Int32) (el : Nat) (oa : Nat) (og : Nat → Int64) (p0 : Int32) (p1 : Int32) : vx_Met l yL_dropAuthor wzL_dropAuthor ({ frames := 9, cells := 1, slots := 6, locals := 147 }) (zx_Pc D cy ed sz [.ref h, .int p0, .int p1, .ref oa] [(h, .inr (13, [.ref pe, .ref ne, .ref pa, .ref ro, .int dy])), (pa, .inr (4, [.int mc, .ref el, .int 0])), (oa, .inl (cy 3, 1, .inr (.inl og)))]) (va_Qi (fun (r9 : Int32) (u9 : Unit) => r9 = 1) (fun (u9 : Unit) (t9 : State) => zx_At D cy (va_A [(h, .inr (13, [.ref pe, .ref ne, .ref pa, .ref ro, .int dy])), (pa, .inr (4, [.int mc, .ref el, .int 0])), (oa, .inl (cy 3, 1, .inr (.inl og)))] sz) [] t9) (va_A [(h, .inr (13, [.ref pe, .ref ne, .ref pa, .ref ro, .int dy])), (pa, .inr (4, [.int mc, .ref el, .int 0])), (oa, .inl (cy 3, 1, .inr (.inl og)))] sz)) (zx_X (fun _ => False) (va_A [(h, .inr (13, [.ref pe, .ref ne, .ref pa, .ref ro, .int dy])), (pa, .inr (4, [.int mc, .ref el, .int 0])), (oa, .inl (cy 3, 1, .inr (.inl og)))] sz)) 1 6 (va_A [(h, .inr (13, [.ref pe, .ref ne, .ref pa, .ref ro, .int dy])), (pa, .inr (4, [.int mc, .ref el, .int 0])), (oa, .inl (cy 3, 1, .inr (.inl og)))] sz) := by
  refine vx_ofWH (cc := cL_dropAuthor) (maxL := 5) (ret := (some .int)) (hh := [(0, 10, 13, 21), (0, 10, 17, 45)]) (by decide) rfl ?_
  intro p e s m args below meth c s₁ B hml hv
  have htb := vx_table (x := objectInit) B (atoms_spec (ws := wzL_dropAuthor) B.pre _ List.mem_cons_self)
  obtain ⟨rfl, hsz, hP, hK, hD0, hZ, hN⟩ := hv
  have hx := B.exec
  have hb := B.bytes
  have hr := B.returns
  have hts := atoms_spec (ws := wzL_dropAuthor) B.pre
  have hown : s.vm.findClass RL = some m.cls := findClass_of_methodNamed B.named
  have hlocks := B.notSynchronized
  subst hsz
  have hD := hD0.self (sz := s.heap.size)
  generalize hAe : va_A [(h, .inr (13, [.ref pe, .ref ne, .ref pa, .ref ro, .int dy])), (pa, .inr (4, [.int mc, .ref el, .int 0])), (oa, .inl (cy 3, 1, .inr (.inl og)))] s.heap.size = A at hD hZ ⊢
  have hA : ∀ q : Nat, s.heap.size ≤ q → A q := fun q h => by rw [← hAe]; exact Or.inr h
  have hS : va_S A s.heap s.heap [] := va_S.rf
  have hP : va_P D vwCl [(h, .inr (13, [.ref pe, .ref ne, .ref pa, .ref ro, .int dy])), (pa, .inr (4, [.int mc, .ref el, .int 0])), (oa, .inl (cy 3, 1, .inr (.inl og)))] s.heap := hP
  have hl := lv_entry ([.ref h, .int p0, .int p1, .ref oa]) (n := 5) (Nat.le_of_ble_eq_true rfl)
  rw [lg_entry_eq]
  generalize (lg_sl ([.ref h, .int p0, .int p1, .ref oa]) ++ List.replicate (5 - (lg_sl ([.ref h, .int p0, .int p1, .ref oa])).length) Slot.unset).toArray = ls at hl ⊢
  have hl : lv_has ls 5 [(0, .ref h), (1, .int p0), (2, .int p1), (3, .ref oa)] := hl
  refine lv_aload_n hx hb dL_dropAuthor_0 rfl (lv_at hl 3 rfl) ?_
  refine lv_iconst (v := 0) hx hb dL_dropAuthor_1 (by decide) ?_
  refine lv_aload_n hx hb dL_dropAuthor_2 rfl (lv_at hl 0 rfl) ?_
  refine lv_iload_n hx hb dL_dropAuthor_3 rfl (lv_at hl 1 rfl) ?_
  refine lv_iload_n hx hb dL_dropAuthor_4 rfl (lv_at hl 2 rfl) ?_
  have hPc := hP.sub (ws' := [(h, .inr (13, [.ref pe, .ref ne, .ref pa, .ref ro, .int dy])), (pa, .inr (4, [.int mc, .ref el, .int 0]))]) [0, 1] rfl
  have hDc := hD.sub (ws' := [(h, .inr (13, [.ref pe, .ref ne, .ref pa, .ref ro, .int dy])), (pa, .inr (4, [.int mc, .ref el, .int 0]))]) [0, 1] (by decide) rfl
  have hFc := va_free (wc := [(h, .inr (13, [.ref pe, .ref ne, .ref pa, .ref ro, .int dy])), (pa, .inr (4, [.int mc, .ref el, .int 0]))]) hD hS hA [0, 1] rfl
  refine vx_calli (vx_runV (As := [.int p0, .int p1]) (rest := [.int 0, .ref oa]) ⟨hx, hb, hml, hown, hts⟩ (c_X8_dropAuthor l hst D cy ed s.heap.size h pe ne pa ro dy mc el p0 p1) (cwV 2 hts (zx_GV mm_883 mm_884 mm_885 mm_71 mm_886) rfl rfl rfl (by decide +kernel) ⟨(Nat.le_of_ble_eq_true rfl), (Nat.le_of_ble_eq_true rfl)⟩) ⟨zx_blind, va_recv hK hPc (ci := 13) (q0 := 0) rfl rfl, zx_give hPc hK hDc hS hFc hZ hN⟩ rfl rfl hl.1 rfl (lv_room (Nat.le_of_ble_eq_true rfl)) dL_dropAuthor_5 ⟨(Nat.le_of_ble_eq_true rfl), (Nat.le_of_ble_eq_true rfl)⟩) hS (fun q _ h => hFc q h) hFc (fun q _ h => hFc q h) (fun E9 ce9 q9 _ t H locs ht hvm _ hBX hz1 hk1 hS hce hcv hcl => ?_) (fun r9 u t H locs ht hvm hw hB hz1 hk1 hS => ?_)
  · have hBX : (fun E9 => E9 = "java/lang/IndexOutOfBoundsException") E9 := hBX
    obtain rfl := hBX
    refine vx_catch hown [] { startPc := 0, endPc := 10, handlerPc := 13, catchType := 21 } [({ startPc := 0, endPc := 10, handlerPc := 17, catchType := 45 } : ExceptionTableEntry)] (by rw [htb]; rfl) (fun z9 h9 => absurd h9 List.not_mem_nil) (by decide) (by decide) (hts (.classLink RL 21 "java/lang/IndexOutOfBoundsException") (zx_Gc mm_432)) (zx_cast_moved (Vm.Alike.refl _) (hN.2.2.1 _ _ (List.mem_of_getElem? (i := 475) (by decide +kernel)))) hce hcv hcl ?_
    obtain ⟨hP, hD⟩ := va_join (wr := [(oa, .inl (cy 3, 1, .inr (.inl og)))]) (w1 := []) hP hD [0, 1] [2] rfl rfl (by decide) (by decide) hk1 hFc zx_P0 zx_D0
    have hP : va_P D vwCl [(oa, .inl (cy 3, 1, .inr (.inl og)))] H := hP
    have hD : va_D A [(oa, .inl (cy 3, 1, .inr (.inl og)))] := hD
    refine W.widen (k := 1) (n := 6) (Nat.le_of_ble_eq_true rfl) (Nat.le_of_ble_eq_true rfl) ?_
    refine lv_astore (lv' := [(4, .ref q9), (0, .ref h), (1, .int p0), (2, .int p1), (3, .ref oa)]) hx hb dL_dropAuthor_13 hl (by decide) rfl (fun ls hl => ?_)
    refine lv_iconst (v := 1) hx hb dL_dropAuthor_15 (by decide) ?_
    have hP9 := hP.sub (ws' := []) [] rfl
    have hD9 := hD.sub (ws' := []) [] (by decide) rfl
    refine vx_ret ?_
    exact W.iret (v := 1) hx hb hr (fun t ht hW => ⟨⟨1, (), rfl, rfl, zx_fin hP9 hD9 hK ht hW⟩, hS.F ht⟩) hS.2.2 dL_dropAuthor_16
  · exact hw.elim
set_option maxHeartbeats 4000000 in
set_option maxRecDepth 100000 in
theorem c_L_sign (l : Launch) (hst : l.stackTraces = false) (D : va_G) (cy : Nat → ClassId) (ed sz : Nat) (h : Nat) (pe : Nat) (ne : Nat) (pa : Nat) (ro : Nat) (dy : Int32) (mc : Int32) (el : Nat) (oa : Nat) (og : Nat → Int64) (p0 : Int32) (p1 : Int32) : vx_Met l yL_sign wzL_sign ({ frames := 9, cells := 1, slots := 6, locals := 146 }) (zx_Pc D cy ed sz [.ref h, .int p0, .int p1, .ref oa] [(h, .inr (13, [.ref pe, .ref ne, .ref pa, .ref ro, .int dy])), (pa, .inr (4, [.int mc, .ref el, .int 0])), (oa, .inl (cy 3, 1, .inr (.inl og)))]) (va_Qi (fun (r9 : Int32) (u9 : Unit) => r9 = 1) (fun (u9 : Unit) (t9 : State) => zx_At D cy (va_A [(h, .inr (13, [.ref pe, .ref ne, .ref pa, .ref ro, .int dy])), (pa, .inr (4, [.int mc, .ref el, .int 0])), (oa, .inl (cy 3, 1, .inr (.inl og)))] sz) [] t9) (va_A [(h, .inr (13, [.ref pe, .ref ne, .ref pa, .ref ro, .int dy])), (pa, .inr (4, [.int mc, .ref el, .int 0])), (oa, .inl (cy 3, 1, .inr (.inl og)))] sz)) (zx_X (fun _ => False) (va_A [(h, .inr (13, [.ref pe, .ref ne, .ref pa, .ref ro, .int dy])), (pa, .inr (4, [.int mc, .ref el, .int 0])), (oa, .inl (cy 3, 1, .inr (.inl og)))] sz)) 1 6 (va_A [(h, .inr (13, [.ref pe, .ref ne, .ref pa, .ref ro, .int dy])), (pa, .inr (4, [.int mc, .ref el, .int 0])), (oa, .inl (cy 3, 1, .inr (.inl og)))] sz) := by
  refine vx_ofWH (cc := cL_sign) (maxL := 5) (ret := (some .int)) (hh := [(0, 17, 20, 21), (0, 17, 24, 45)]) (by decide) rfl ?_
  intro p e s m args below meth c s₁ B hml hv
  have htb := vx_table (x := objectInit) B (atoms_spec (ws := wzL_sign) B.pre _ List.mem_cons_self)
  obtain ⟨rfl, hsz, hP, hK, hD0, hZ, hN⟩ := hv
  have hx := B.exec
  have hb := B.bytes
  have hr := B.returns
  have hts := atoms_spec (ws := wzL_sign) B.pre
  have hown : s.vm.findClass RL = some m.cls := findClass_of_methodNamed B.named
  have hlocks := B.notSynchronized
  subst hsz
  have hD := hD0.self (sz := s.heap.size)
  generalize hAe : va_A [(h, .inr (13, [.ref pe, .ref ne, .ref pa, .ref ro, .int dy])), (pa, .inr (4, [.int mc, .ref el, .int 0])), (oa, .inl (cy 3, 1, .inr (.inl og)))] s.heap.size = A at hD hZ ⊢
  have hA : ∀ q : Nat, s.heap.size ≤ q → A q := fun q h => by rw [← hAe]; exact Or.inr h
  have hS : va_S A s.heap s.heap [] := va_S.rf
  have hP : va_P D vwCl [(h, .inr (13, [.ref pe, .ref ne, .ref pa, .ref ro, .int dy])), (pa, .inr (4, [.int mc, .ref el, .int 0])), (oa, .inl (cy 3, 1, .inr (.inl og)))] s.heap := hP
  have hl := lv_entry ([.ref h, .int p0, .int p1, .ref oa]) (n := 5) (Nat.le_of_ble_eq_true rfl)
  rw [lg_entry_eq]
  generalize (lg_sl ([.ref h, .int p0, .int p1, .ref oa]) ++ List.replicate (5 - (lg_sl ([.ref h, .int p0, .int p1, .ref oa])).length) Slot.unset).toArray = ls at hl ⊢
  have hl : lv_has ls 5 [(0, .ref h), (1, .int p0), (2, .int p1), (3, .ref oa)] := hl
  refine lv_aload_n hx hb dL_sign_0 rfl (lv_at hl 3 rfl) ?_
  refine lv_iconst (v := 0) hx hb dL_sign_1 (by decide) ?_
  refine lv_aload_n hx hb dL_sign_2 rfl (lv_at hl 0 rfl) ?_
  refine lv_iload_n hx hb dL_sign_3 rfl (lv_at hl 1 rfl) ?_
  refine lv_iload_n hx hb dL_sign_4 rfl (lv_at hl 2 rfl) ?_
  have hPc := hP.sub (ws' := [(h, .inr (13, [.ref pe, .ref ne, .ref pa, .ref ro, .int dy])), (pa, .inr (4, [.int mc, .ref el, .int 0]))]) [0, 1] rfl
  have hDc := hD.sub (ws' := [(h, .inr (13, [.ref pe, .ref ne, .ref pa, .ref ro, .int dy])), (pa, .inr (4, [.int mc, .ref el, .int 0]))]) [0, 1] (by decide) rfl
  have hFc := va_free (wc := [(h, .inr (13, [.ref pe, .ref ne, .ref pa, .ref ro, .int dy])), (pa, .inr (4, [.int mc, .ref el, .int 0]))]) hD hS hA [0, 1] rfl
  refine vx_calli (vx_runV (As := [.int p0, .int p1]) (rest := [.int 0, .ref oa]) ⟨hx, hb, hml, hown, hts⟩ (c_X8_sign l hst D cy ed s.heap.size h pe ne pa ro dy mc el p0 p1) (cwV 2 hts (zx_GV mm_890 mm_891 mm_892 mm_71 mm_893) rfl rfl rfl (by decide +kernel) ⟨(Nat.le_of_ble_eq_true rfl), (Nat.le_of_ble_eq_true rfl)⟩) ⟨zx_blind, va_recv hK hPc (ci := 13) (q0 := 0) rfl rfl, zx_give hPc hK hDc hS hFc hZ hN⟩ rfl rfl hl.1 rfl (lv_room (Nat.le_of_ble_eq_true rfl)) dL_sign_5 ⟨(Nat.le_of_ble_eq_true rfl), (Nat.le_of_ble_eq_true rfl)⟩) hS (fun q _ h => hFc q h) hFc (fun q _ h => hFc q h) (fun E9 ce9 q9 _ t H locs ht hvm _ hBX hz1 hk1 hS hce hcv hcl => ?_) (fun r9 u t H locs ht hvm hw hB hz1 hk1 hS => ?_)
  · have hBX : (fun E9 => E9 = "java/lang/IndexOutOfBoundsException") E9 := hBX
    obtain rfl := hBX
    refine vx_catch hown [] { startPc := 0, endPc := 17, handlerPc := 20, catchType := 21 } [({ startPc := 0, endPc := 17, handlerPc := 24, catchType := 45 } : ExceptionTableEntry)] (by rw [htb]; rfl) (fun z9 h9 => absurd h9 List.not_mem_nil) (by decide) (by decide) (hts (.classLink RL 21 "java/lang/IndexOutOfBoundsException") (zx_Gc mm_432)) (zx_cast_moved (Vm.Alike.refl _) (hN.2.2.1 _ _ (List.mem_of_getElem? (i := 475) (by decide +kernel)))) hce hcv hcl ?_
    obtain ⟨hP, hD⟩ := va_join (wr := [(oa, .inl (cy 3, 1, .inr (.inl og)))]) (w1 := []) hP hD [0, 1] [2] rfl rfl (by decide) (by decide) hk1 hFc zx_P0 zx_D0
    have hP : va_P D vwCl [(oa, .inl (cy 3, 1, .inr (.inl og)))] H := hP
    have hD : va_D A [(oa, .inl (cy 3, 1, .inr (.inl og)))] := hD
    refine W.widen (k := 1) (n := 6) (Nat.le_of_ble_eq_true rfl) (Nat.le_of_ble_eq_true rfl) ?_
    refine lv_astore (lv' := [(4, .ref q9), (0, .ref h), (1, .int p0), (2, .int p1), (3, .ref oa)]) hx hb dL_sign_20 hl (by decide) rfl (fun ls hl => ?_)
    refine lv_iconst (v := 1) hx hb dL_sign_22 (by decide) ?_
    have hP9 := hP.sub (ws' := []) [] rfl
    have hD9 := hD.sub (ws' := []) [] (by decide) rfl
    refine vx_ret ?_
    exact W.iret (v := 1) hx hb hr (fun t ht hW => ⟨⟨1, (), rfl, rfl, zx_fin hP9 hD9 hK ht hW⟩, hS.F ht⟩) hS.2.2 dL_sign_23
  · exact hw.elim
set_option maxHeartbeats 4000000 in
set_option maxRecDepth 100000 in
theorem c_L_revise (l : Launch) (hst : l.stackTraces = false) (D : va_G) (cy : Nat → ClassId) (ed sz : Nat) (h : Nat) (pe : Nat) (ne : Nat) (pa : Nat) (ro : Nat) (dy : Int32) (mc : Int32) (el : Nat) (oa : Nat) (og : Nat → Int64) (p0 : Int32) (p1 : Int32) : vx_Met l yL_revise wzL_revise ({ frames := 9, cells := 1, slots := 6, locals := 146 }) (zx_Pc D cy ed sz [.ref h, .int p0, .int p1, .ref oa] [(h, .inr (13, [.ref pe, .ref ne, .ref pa, .ref ro, .int dy])), (pa, .inr (4, [.int mc, .ref el, .int 0])), (oa, .inl (cy 3, 1, .inr (.inl og)))]) (va_Qi (fun (r9 : Int32) (u9 : Unit) => r9 = 1) (fun (u9 : Unit) (t9 : State) => zx_At D cy (va_A [(h, .inr (13, [.ref pe, .ref ne, .ref pa, .ref ro, .int dy])), (pa, .inr (4, [.int mc, .ref el, .int 0])), (oa, .inl (cy 3, 1, .inr (.inl og)))] sz) [] t9) (va_A [(h, .inr (13, [.ref pe, .ref ne, .ref pa, .ref ro, .int dy])), (pa, .inr (4, [.int mc, .ref el, .int 0])), (oa, .inl (cy 3, 1, .inr (.inl og)))] sz)) (zx_X (fun _ => False) (va_A [(h, .inr (13, [.ref pe, .ref ne, .ref pa, .ref ro, .int dy])), (pa, .inr (4, [.int mc, .ref el, .int 0])), (oa, .inl (cy 3, 1, .inr (.inl og)))] sz)) 1 6 (va_A [(h, .inr (13, [.ref pe, .ref ne, .ref pa, .ref ro, .int dy])), (pa, .inr (4, [.int mc, .ref el, .int 0])), (oa, .inl (cy 3, 1, .inr (.inl og)))] sz) := by
  refine vx_ofWH (cc := cL_revise) (maxL := 5) (ret := (some .int)) (hh := [(0, 10, 13, 21), (0, 10, 17, 13), (0, 10, 21, 45)]) (by decide) rfl ?_
  intro p e s m args below meth c s₁ B hml hv
  have htb := vx_table (x := objectInit) B (atoms_spec (ws := wzL_revise) B.pre _ List.mem_cons_self)
  obtain ⟨rfl, hsz, hP, hK, hD0, hZ, hN⟩ := hv
  have hx := B.exec
  have hb := B.bytes
  have hr := B.returns
  have hts := atoms_spec (ws := wzL_revise) B.pre
  have hown : s.vm.findClass RL = some m.cls := findClass_of_methodNamed B.named
  have hlocks := B.notSynchronized
  subst hsz
  have hD := hD0.self (sz := s.heap.size)
  generalize hAe : va_A [(h, .inr (13, [.ref pe, .ref ne, .ref pa, .ref ro, .int dy])), (pa, .inr (4, [.int mc, .ref el, .int 0])), (oa, .inl (cy 3, 1, .inr (.inl og)))] s.heap.size = A at hD hZ ⊢
  have hA : ∀ q : Nat, s.heap.size ≤ q → A q := fun q h => by rw [← hAe]; exact Or.inr h
  have hS : va_S A s.heap s.heap [] := va_S.rf
  have hP : va_P D vwCl [(h, .inr (13, [.ref pe, .ref ne, .ref pa, .ref ro, .int dy])), (pa, .inr (4, [.int mc, .ref el, .int 0])), (oa, .inl (cy 3, 1, .inr (.inl og)))] s.heap := hP
  have hl := lv_entry ([.ref h, .int p0, .int p1, .ref oa]) (n := 5) (Nat.le_of_ble_eq_true rfl)
  rw [lg_entry_eq]
  generalize (lg_sl ([.ref h, .int p0, .int p1, .ref oa]) ++ List.replicate (5 - (lg_sl ([.ref h, .int p0, .int p1, .ref oa])).length) Slot.unset).toArray = ls at hl ⊢
  have hl : lv_has ls 5 [(0, .ref h), (1, .int p0), (2, .int p1), (3, .ref oa)] := hl
  refine lv_aload_n hx hb dL_revise_0 rfl (lv_at hl 3 rfl) ?_
  refine lv_iconst (v := 0) hx hb dL_revise_1 (by decide) ?_
  refine lv_aload_n hx hb dL_revise_2 rfl (lv_at hl 0 rfl) ?_
  refine lv_iload_n hx hb dL_revise_3 rfl (lv_at hl 1 rfl) ?_
  refine lv_iload_n hx hb dL_revise_4 rfl (lv_at hl 2 rfl) ?_
  have hPc := hP.sub (ws' := [(h, .inr (13, [.ref pe, .ref ne, .ref pa, .ref ro, .int dy])), (pa, .inr (4, [.int mc, .ref el, .int 0]))]) [0, 1] rfl
  have hDc := hD.sub (ws' := [(h, .inr (13, [.ref pe, .ref ne, .ref pa, .ref ro, .int dy])), (pa, .inr (4, [.int mc, .ref el, .int 0]))]) [0, 1] (by decide) rfl
  have hFc := va_free (wc := [(h, .inr (13, [.ref pe, .ref ne, .ref pa, .ref ro, .int dy])), (pa, .inr (4, [.int mc, .ref el, .int 0]))]) hD hS hA [0, 1] rfl
  refine vx_calli (vx_runV (As := [.int p0, .int p1]) (rest := [.int 0, .ref oa]) ⟨hx, hb, hml, hown, hts⟩ (c_X8_revise l hst D cy ed s.heap.size h pe ne pa ro dy mc el p0 p1) (cwV 2 hts (zx_GV mm_915 mm_916 mm_917 mm_71 mm_918) rfl rfl rfl (by decide +kernel) ⟨(Nat.le_of_ble_eq_true rfl), (Nat.le_of_ble_eq_true rfl)⟩) ⟨zx_blind, va_recv hK hPc (ci := 13) (q0 := 0) rfl rfl, zx_give hPc hK hDc hS hFc hZ hN⟩ rfl rfl hl.1 rfl (lv_room (Nat.le_of_ble_eq_true rfl)) dL_revise_5 ⟨(Nat.le_of_ble_eq_true rfl), (Nat.le_of_ble_eq_true rfl)⟩) hS (fun q _ h => hFc q h) hFc (fun q _ h => hFc q h) (fun E9 ce9 q9 _ t H locs ht hvm _ hBX hz1 hk1 hS hce hcv hcl => ?_) (fun r9 u t H locs ht hvm hw hB hz1 hk1 hS => ?_)
  · have hBX : (fun E9 => E9 = "java/lang/IndexOutOfBoundsException") E9 := hBX
    obtain rfl := hBX
    refine vx_catch hown [] { startPc := 0, endPc := 10, handlerPc := 13, catchType := 21 } [({ startPc := 0, endPc := 10, handlerPc := 17, catchType := 13 } : ExceptionTableEntry), ({ startPc := 0, endPc := 10, handlerPc := 21, catchType := 45 } : ExceptionTableEntry)] (by rw [htb]; rfl) (fun z9 h9 => absurd h9 List.not_mem_nil) (by decide) (by decide) (hts (.classLink RL 21 "java/lang/IndexOutOfBoundsException") (zx_Gc mm_432)) (zx_cast_moved (Vm.Alike.refl _) (hN.2.2.1 _ _ (List.mem_of_getElem? (i := 475) (by decide +kernel)))) hce hcv hcl ?_
    obtain ⟨hP, hD⟩ := va_join (wr := [(oa, .inl (cy 3, 1, .inr (.inl og)))]) (w1 := []) hP hD [0, 1] [2] rfl rfl (by decide) (by decide) hk1 hFc zx_P0 zx_D0
    have hP : va_P D vwCl [(oa, .inl (cy 3, 1, .inr (.inl og)))] H := hP
    have hD : va_D A [(oa, .inl (cy 3, 1, .inr (.inl og)))] := hD
    refine W.widen (k := 1) (n := 6) (Nat.le_of_ble_eq_true rfl) (Nat.le_of_ble_eq_true rfl) ?_
    refine lv_astore (lv' := [(4, .ref q9), (0, .ref h), (1, .int p0), (2, .int p1), (3, .ref oa)]) hx hb dL_revise_13 hl (by decide) rfl (fun ls hl => ?_)
    refine lv_iconst (v := 1) hx hb dL_revise_15 (by decide) ?_
    have hP9 := hP.sub (ws' := []) [] rfl
    have hD9 := hD.sub (ws' := []) [] (by decide) rfl
    refine vx_ret ?_
    exact W.iret (v := 1) hx hb hr (fun t ht hW => ⟨⟨1, (), rfl, rfl, zx_fin hP9 hD9 hK ht hW⟩, hS.F ht⟩) hS.2.2 dL_revise_16
  · exact hw.elim
set_option maxHeartbeats 4000000 in
set_option maxRecDepth 100000 in
theorem c_L_withdraw (l : Launch) (hst : l.stackTraces = false) (D : va_G) (cy : Nat → ClassId) (ed sz : Nat) (h : Nat) (pe : Nat) (ne : Nat) (pa : Nat) (ro : Nat) (dy : Int32) (mc : Int32) (el : Nat) (oa : Nat) (og : Nat → Int64) (p0 : Int32) : vx_Met l yL_withdraw wzL_withdraw ({ frames := 9, cells := 1, slots := 6, locals := 146 }) (zx_Pc D cy ed sz [.ref h, .int p0, .ref oa] [(h, .inr (13, [.ref pe, .ref ne, .ref pa, .ref ro, .int dy])), (pa, .inr (4, [.int mc, .ref el, .int 0])), (oa, .inl (cy 3, 1, .inr (.inl og)))]) (va_Qi (fun (r9 : Int32) (u9 : Unit) => r9 = 1) (fun (u9 : Unit) (t9 : State) => zx_At D cy (va_A [(h, .inr (13, [.ref pe, .ref ne, .ref pa, .ref ro, .int dy])), (pa, .inr (4, [.int mc, .ref el, .int 0])), (oa, .inl (cy 3, 1, .inr (.inl og)))] sz) [] t9) (va_A [(h, .inr (13, [.ref pe, .ref ne, .ref pa, .ref ro, .int dy])), (pa, .inr (4, [.int mc, .ref el, .int 0])), (oa, .inl (cy 3, 1, .inr (.inl og)))] sz)) (zx_X (fun _ => False) (va_A [(h, .inr (13, [.ref pe, .ref ne, .ref pa, .ref ro, .int dy])), (pa, .inr (4, [.int mc, .ref el, .int 0])), (oa, .inl (cy 3, 1, .inr (.inl og)))] sz)) 1 6 (va_A [(h, .inr (13, [.ref pe, .ref ne, .ref pa, .ref ro, .int dy])), (pa, .inr (4, [.int mc, .ref el, .int 0])), (oa, .inl (cy 3, 1, .inr (.inl og)))] sz) := by
  refine vx_ofWH (cc := cL_withdraw) (maxL := 4) (ret := (some .int)) (hh := [(0, 9, 12, 21), (0, 9, 15, 45)]) (by decide) rfl ?_
  intro p e s m args below meth c s₁ B hml hv
  have htb := vx_table (x := objectInit) B (atoms_spec (ws := wzL_withdraw) B.pre _ List.mem_cons_self)
  obtain ⟨rfl, hsz, hP, hK, hD0, hZ, hN⟩ := hv
  have hx := B.exec
  have hb := B.bytes
  have hr := B.returns
  have hts := atoms_spec (ws := wzL_withdraw) B.pre
  have hown : s.vm.findClass RL = some m.cls := findClass_of_methodNamed B.named
  have hlocks := B.notSynchronized
  subst hsz
  have hD := hD0.self (sz := s.heap.size)
  generalize hAe : va_A [(h, .inr (13, [.ref pe, .ref ne, .ref pa, .ref ro, .int dy])), (pa, .inr (4, [.int mc, .ref el, .int 0])), (oa, .inl (cy 3, 1, .inr (.inl og)))] s.heap.size = A at hD hZ ⊢
  have hA : ∀ q : Nat, s.heap.size ≤ q → A q := fun q h => by rw [← hAe]; exact Or.inr h
  have hS : va_S A s.heap s.heap [] := va_S.rf
  have hP : va_P D vwCl [(h, .inr (13, [.ref pe, .ref ne, .ref pa, .ref ro, .int dy])), (pa, .inr (4, [.int mc, .ref el, .int 0])), (oa, .inl (cy 3, 1, .inr (.inl og)))] s.heap := hP
  have hl := lv_entry ([.ref h, .int p0, .ref oa]) (n := 4) (Nat.le_of_ble_eq_true rfl)
  rw [lg_entry_eq]
  generalize (lg_sl ([.ref h, .int p0, .ref oa]) ++ List.replicate (4 - (lg_sl ([.ref h, .int p0, .ref oa])).length) Slot.unset).toArray = ls at hl ⊢
  have hl : lv_has ls 4 [(0, .ref h), (1, .int p0), (2, .ref oa)] := hl
  refine lv_aload_n hx hb dL_withdraw_0 rfl (lv_at hl 2 rfl) ?_
  refine lv_iconst (v := 0) hx hb dL_withdraw_1 (by decide) ?_
  refine lv_aload_n hx hb dL_withdraw_2 rfl (lv_at hl 0 rfl) ?_
  refine lv_iload_n hx hb dL_withdraw_3 rfl (lv_at hl 1 rfl) ?_
  have hPc := hP.sub (ws' := [(h, .inr (13, [.ref pe, .ref ne, .ref pa, .ref ro, .int dy])), (pa, .inr (4, [.int mc, .ref el, .int 0]))]) [0, 1] rfl
  have hDc := hD.sub (ws' := [(h, .inr (13, [.ref pe, .ref ne, .ref pa, .ref ro, .int dy])), (pa, .inr (4, [.int mc, .ref el, .int 0]))]) [0, 1] (by decide) rfl
  have hFc := va_free (wc := [(h, .inr (13, [.ref pe, .ref ne, .ref pa, .ref ro, .int dy])), (pa, .inr (4, [.int mc, .ref el, .int 0]))]) hD hS hA [0, 1] rfl
  refine vx_calli (vx_runV (As := [.int p0]) (rest := [.int 0, .ref oa]) ⟨hx, hb, hml, hown, hts⟩ (c_X8_withdraw l hst D cy ed s.heap.size h pe ne pa ro dy mc el p0) (cwV 1 hts (zx_GV mm_922 mm_923 mm_924 mm_71 mm_925) rfl rfl rfl (by decide +kernel) ⟨(Nat.le_of_ble_eq_true rfl), (Nat.le_of_ble_eq_true rfl)⟩) ⟨zx_blind, va_recv hK hPc (ci := 13) (q0 := 0) rfl rfl, zx_give hPc hK hDc hS hFc hZ hN⟩ rfl rfl hl.1 rfl (lv_room (Nat.le_of_ble_eq_true rfl)) dL_withdraw_4 ⟨(Nat.le_of_ble_eq_true rfl), (Nat.le_of_ble_eq_true rfl)⟩) hS (fun q _ h => hFc q h) hFc (fun q _ h => hFc q h) (fun E9 ce9 q9 _ t H locs ht hvm _ hBX hz1 hk1 hS hce hcv hcl => ?_) (fun r9 u t H locs ht hvm hw hB hz1 hk1 hS => ?_)
  · have hBX : (fun E9 => E9 = "java/lang/IndexOutOfBoundsException") E9 := hBX
    obtain rfl := hBX
    refine vx_catch hown [] { startPc := 0, endPc := 9, handlerPc := 12, catchType := 21 } [({ startPc := 0, endPc := 9, handlerPc := 15, catchType := 45 } : ExceptionTableEntry)] (by rw [htb]; rfl) (fun z9 h9 => absurd h9 List.not_mem_nil) (by decide) (by decide) (hts (.classLink RL 21 "java/lang/IndexOutOfBoundsException") (zx_Gc mm_432)) (zx_cast_moved (Vm.Alike.refl _) (hN.2.2.1 _ _ (List.mem_of_getElem? (i := 475) (by decide +kernel)))) hce hcv hcl ?_
    obtain ⟨hP, hD⟩ := va_join (wr := [(oa, .inl (cy 3, 1, .inr (.inl og)))]) (w1 := []) hP hD [0, 1] [2] rfl rfl (by decide) (by decide) hk1 hFc zx_P0 zx_D0
    have hP : va_P D vwCl [(oa, .inl (cy 3, 1, .inr (.inl og)))] H := hP
    have hD : va_D A [(oa, .inl (cy 3, 1, .inr (.inl og)))] := hD
    refine W.widen (k := 1) (n := 6) (Nat.le_of_ble_eq_true rfl) (Nat.le_of_ble_eq_true rfl) ?_
    refine lv_astore_n (lv' := [(3, .ref q9), (0, .ref h), (1, .int p0), (2, .ref oa)]) hx hb dL_withdraw_12 rfl hl (by decide) rfl (fun ls hl => ?_)
    refine lv_iconst (v := 1) hx hb dL_withdraw_13 (by decide) ?_
    have hP9 := hP.sub (ws' := []) [] rfl
    have hD9 := hD.sub (ws' := []) [] (by decide) rfl
    refine vx_ret ?_
    exact W.iret (v := 1) hx hb hr (fun t ht hW => ⟨⟨1, (), rfl, rfl, zx_fin hP9 hD9 hK ht hW⟩, hS.F ht⟩) hS.2.2 dL_withdraw_14
  · exact hw.elim
set_option maxHeartbeats 4000000 in
set_option maxRecDepth 100000 in
theorem c_L_assign (l : Launch) (hst : l.stackTraces = false) (D : va_G) (cy : Nat → ClassId) (ed sz : Nat) (h : Nat) (pe : Nat) (ne : Nat) (pa : Nat) (ro : Nat) (dy : Int32) (mc : Int32) (el : Nat) (oa : Nat) (og : Nat → Int64) (p0 : Int32) : vx_Met l yL_assign wzL_assign ({ frames := 9, cells := 1, slots := 6, locals := 146 }) (zx_Pc D cy ed sz [.ref h, .int p0, .ref oa] [(h, .inr (13, [.ref pe, .ref ne, .ref pa, .ref ro, .int dy])), (pa, .inr (4, [.int mc, .ref el, .int 0])), (oa, .inl (cy 3, 1, .inr (.inl og)))]) (va_Qi (fun (r9 : Int32) (u9 : Unit) => r9 = 1) (fun (u9 : Unit) (t9 : State) => zx_At D cy (va_A [(h, .inr (13, [.ref pe, .ref ne, .ref pa, .ref ro, .int dy])), (pa, .inr (4, [.int mc, .ref el, .int 0])), (oa, .inl (cy 3, 1, .inr (.inl og)))] sz) [] t9) (va_A [(h, .inr (13, [.ref pe, .ref ne, .ref pa, .ref ro, .int dy])), (pa, .inr (4, [.int mc, .ref el, .int 0])), (oa, .inl (cy 3, 1, .inr (.inl og)))] sz)) (zx_X (fun _ => False) (va_A [(h, .inr (13, [.ref pe, .ref ne, .ref pa, .ref ro, .int dy])), (pa, .inr (4, [.int mc, .ref el, .int 0])), (oa, .inl (cy 3, 1, .inr (.inl og)))] sz)) 1 6 (va_A [(h, .inr (13, [.ref pe, .ref ne, .ref pa, .ref ro, .int dy])), (pa, .inr (4, [.int mc, .ref el, .int 0])), (oa, .inl (cy 3, 1, .inr (.inl og)))] sz) := by
  refine vx_ofWH (cc := cL_assign) (maxL := 4) (ret := (some .int)) (hh := [(0, 9, 12, 21), (0, 9, 15, 45), (0, 9, 18, 64)]) (by decide) rfl ?_
  intro p e s m args below meth c s₁ B hml hv
  have htb := vx_table (x := objectInit) B (atoms_spec (ws := wzL_assign) B.pre _ List.mem_cons_self)
  obtain ⟨rfl, hsz, hP, hK, hD0, hZ, hN⟩ := hv
  have hx := B.exec
  have hb := B.bytes
  have hr := B.returns
  have hts := atoms_spec (ws := wzL_assign) B.pre
  have hown : s.vm.findClass RL = some m.cls := findClass_of_methodNamed B.named
  have hlocks := B.notSynchronized
  subst hsz
  have hD := hD0.self (sz := s.heap.size)
  generalize hAe : va_A [(h, .inr (13, [.ref pe, .ref ne, .ref pa, .ref ro, .int dy])), (pa, .inr (4, [.int mc, .ref el, .int 0])), (oa, .inl (cy 3, 1, .inr (.inl og)))] s.heap.size = A at hD hZ ⊢
  have hA : ∀ q : Nat, s.heap.size ≤ q → A q := fun q h => by rw [← hAe]; exact Or.inr h
  have hS : va_S A s.heap s.heap [] := va_S.rf
  have hP : va_P D vwCl [(h, .inr (13, [.ref pe, .ref ne, .ref pa, .ref ro, .int dy])), (pa, .inr (4, [.int mc, .ref el, .int 0])), (oa, .inl (cy 3, 1, .inr (.inl og)))] s.heap := hP
  have hl := lv_entry ([.ref h, .int p0, .ref oa]) (n := 4) (Nat.le_of_ble_eq_true rfl)
  rw [lg_entry_eq]
  generalize (lg_sl ([.ref h, .int p0, .ref oa]) ++ List.replicate (4 - (lg_sl ([.ref h, .int p0, .ref oa])).length) Slot.unset).toArray = ls at hl ⊢
  have hl : lv_has ls 4 [(0, .ref h), (1, .int p0), (2, .ref oa)] := hl
  refine lv_aload_n hx hb dL_assign_0 rfl (lv_at hl 2 rfl) ?_
  refine lv_iconst (v := 0) hx hb dL_assign_1 (by decide) ?_
  refine lv_aload_n hx hb dL_assign_2 rfl (lv_at hl 0 rfl) ?_
  refine lv_iload_n hx hb dL_assign_3 rfl (lv_at hl 1 rfl) ?_
  have hPc := hP.sub (ws' := [(h, .inr (13, [.ref pe, .ref ne, .ref pa, .ref ro, .int dy])), (pa, .inr (4, [.int mc, .ref el, .int 0]))]) [0, 1] rfl
  have hDc := hD.sub (ws' := [(h, .inr (13, [.ref pe, .ref ne, .ref pa, .ref ro, .int dy])), (pa, .inr (4, [.int mc, .ref el, .int 0]))]) [0, 1] (by decide) rfl
  have hFc := va_free (wc := [(h, .inr (13, [.ref pe, .ref ne, .ref pa, .ref ro, .int dy])), (pa, .inr (4, [.int mc, .ref el, .int 0]))]) hD hS hA [0, 1] rfl
  refine vx_calli (vx_runV (As := [.int p0]) (rest := [.int 0, .ref oa]) ⟨hx, hb, hml, hown, hts⟩ (c_X8_assign l hst D cy ed s.heap.size h pe ne pa ro dy mc el p0) (cwV 1 hts (zx_GV mm_934 mm_935 mm_936 mm_71 mm_937) rfl rfl rfl (by decide +kernel) ⟨(Nat.le_of_ble_eq_true rfl), (Nat.le_of_ble_eq_true rfl)⟩) ⟨zx_blind, va_recv hK hPc (ci := 13) (q0 := 0) rfl rfl, zx_give hPc hK hDc hS hFc hZ hN⟩ rfl rfl hl.1 rfl (lv_room (Nat.le_of_ble_eq_true rfl)) dL_assign_4 ⟨(Nat.le_of_ble_eq_true rfl), (Nat.le_of_ble_eq_true rfl)⟩) hS (fun q _ h => hFc q h) hFc (fun q _ h => hFc q h) (fun E9 ce9 q9 _ t H locs ht hvm _ hBX hz1 hk1 hS hce hcv hcl => ?_) (fun r9 u t H locs ht hvm hw hB hz1 hk1 hS => ?_)
  · have hBX : (fun E9 => E9 = "java/lang/IndexOutOfBoundsException") E9 := hBX
    obtain rfl := hBX
    refine vx_catch hown [] { startPc := 0, endPc := 9, handlerPc := 12, catchType := 21 } [({ startPc := 0, endPc := 9, handlerPc := 15, catchType := 45 } : ExceptionTableEntry), ({ startPc := 0, endPc := 9, handlerPc := 18, catchType := 64 } : ExceptionTableEntry)] (by rw [htb]; rfl) (fun z9 h9 => absurd h9 List.not_mem_nil) (by decide) (by decide) (hts (.classLink RL 21 "java/lang/IndexOutOfBoundsException") (zx_Gc mm_432)) (zx_cast_moved (Vm.Alike.refl _) (hN.2.2.1 _ _ (List.mem_of_getElem? (i := 475) (by decide +kernel)))) hce hcv hcl ?_
    obtain ⟨hP, hD⟩ := va_join (wr := [(oa, .inl (cy 3, 1, .inr (.inl og)))]) (w1 := []) hP hD [0, 1] [2] rfl rfl (by decide) (by decide) hk1 hFc zx_P0 zx_D0
    have hP : va_P D vwCl [(oa, .inl (cy 3, 1, .inr (.inl og)))] H := hP
    have hD : va_D A [(oa, .inl (cy 3, 1, .inr (.inl og)))] := hD
    refine W.widen (k := 1) (n := 6) (Nat.le_of_ble_eq_true rfl) (Nat.le_of_ble_eq_true rfl) ?_
    refine lv_astore_n (lv' := [(3, .ref q9), (0, .ref h), (1, .int p0), (2, .ref oa)]) hx hb dL_assign_12 rfl hl (by decide) rfl (fun ls hl => ?_)
    refine lv_iconst (v := 1) hx hb dL_assign_13 (by decide) ?_
    have hP9 := hP.sub (ws' := []) [] rfl
    have hD9 := hD.sub (ws' := []) [] (by decide) rfl
    refine vx_ret ?_
    exact W.iret (v := 1) hx hb hr (fun t ht hW => ⟨⟨1, (), rfl, rfl, zx_fin hP9 hD9 hK ht hW⟩, hS.F ht⟩) hS.2.2 dL_assign_14
  · exact hw.elim
set_option maxHeartbeats 4000000 in
set_option maxRecDepth 100000 in
theorem c_L_editorOf (l : Launch) (hst : l.stackTraces = false) (D : va_G) (cy : Nat → ClassId) (ed sz : Nat) (h : Nat) (pe : Nat) (ne : Nat) (pa : Nat) (ro : Nat) (dy : Int32) (mc : Int32) (el : Nat) (oa : Nat) (og : Nat → Int64) (p0 : Int32) : vx_Met l yL_editorOf wzL_editorOf ({ frames := 9, cells := 1, slots := 6, locals := 145 }) (zx_Pc D cy ed sz [.ref h, .int p0, .ref oa] [(h, .inr (13, [.ref pe, .ref ne, .ref pa, .ref ro, .int dy])), (pa, .inr (4, [.int mc, .ref el, .int 0])), (oa, .inl (cy 3, 1, .inr (.inl og)))]) (va_Qi (fun (r9 : Int32) (u9 : Unit) => r9 = 1) (fun (u9 : Unit) (t9 : State) => zx_At D cy (va_A [(h, .inr (13, [.ref pe, .ref ne, .ref pa, .ref ro, .int dy])), (pa, .inr (4, [.int mc, .ref el, .int 0])), (oa, .inl (cy 3, 1, .inr (.inl og)))] sz) [] t9) (va_A [(h, .inr (13, [.ref pe, .ref ne, .ref pa, .ref ro, .int dy])), (pa, .inr (4, [.int mc, .ref el, .int 0])), (oa, .inl (cy 3, 1, .inr (.inl og)))] sz)) (zx_X (fun _ => False) (va_A [(h, .inr (13, [.ref pe, .ref ne, .ref pa, .ref ro, .int dy])), (pa, .inr (4, [.int mc, .ref el, .int 0])), (oa, .inl (cy 3, 1, .inr (.inl og)))] sz)) 1 6 (va_A [(h, .inr (13, [.ref pe, .ref ne, .ref pa, .ref ro, .int dy])), (pa, .inr (4, [.int mc, .ref el, .int 0])), (oa, .inl (cy 3, 1, .inr (.inl og)))] sz) := by
  refine vx_ofWH (cc := cL_editorOf) (maxL := 4) (ret := (some .int)) (hh := [(0, 9, 12, 21), (0, 9, 15, 64)]) (by decide) rfl ?_
  intro p e s m args below meth c s₁ B hml hv
  have htb := vx_table (x := objectInit) B (atoms_spec (ws := wzL_editorOf) B.pre _ List.mem_cons_self)
  obtain ⟨rfl, hsz, hP, hK, hD0, hZ, hN⟩ := hv
  have hx := B.exec
  have hb := B.bytes
  have hr := B.returns
  have hts := atoms_spec (ws := wzL_editorOf) B.pre
  have hown : s.vm.findClass RL = some m.cls := findClass_of_methodNamed B.named
  have hlocks := B.notSynchronized
  subst hsz
  have hD := hD0.self (sz := s.heap.size)
  generalize hAe : va_A [(h, .inr (13, [.ref pe, .ref ne, .ref pa, .ref ro, .int dy])), (pa, .inr (4, [.int mc, .ref el, .int 0])), (oa, .inl (cy 3, 1, .inr (.inl og)))] s.heap.size = A at hD hZ ⊢
  have hA : ∀ q : Nat, s.heap.size ≤ q → A q := fun q h => by rw [← hAe]; exact Or.inr h
  have hS : va_S A s.heap s.heap [] := va_S.rf
  have hP : va_P D vwCl [(h, .inr (13, [.ref pe, .ref ne, .ref pa, .ref ro, .int dy])), (pa, .inr (4, [.int mc, .ref el, .int 0])), (oa, .inl (cy 3, 1, .inr (.inl og)))] s.heap := hP
  have hl := lv_entry ([.ref h, .int p0, .ref oa]) (n := 4) (Nat.le_of_ble_eq_true rfl)
  rw [lg_entry_eq]
  generalize (lg_sl ([.ref h, .int p0, .ref oa]) ++ List.replicate (4 - (lg_sl ([.ref h, .int p0, .ref oa])).length) Slot.unset).toArray = ls at hl ⊢
  have hl : lv_has ls 4 [(0, .ref h), (1, .int p0), (2, .ref oa)] := hl
  refine lv_aload_n hx hb dL_editorOf_0 rfl (lv_at hl 2 rfl) ?_
  refine lv_iconst (v := 0) hx hb dL_editorOf_1 (by decide) ?_
  refine lv_aload_n hx hb dL_editorOf_2 rfl (lv_at hl 0 rfl) ?_
  refine lv_iload_n hx hb dL_editorOf_3 rfl (lv_at hl 1 rfl) ?_
  have hPc := hP.sub (ws' := [(h, .inr (13, [.ref pe, .ref ne, .ref pa, .ref ro, .int dy])), (pa, .inr (4, [.int mc, .ref el, .int 0]))]) [0, 1] rfl
  have hDc := hD.sub (ws' := [(h, .inr (13, [.ref pe, .ref ne, .ref pa, .ref ro, .int dy])), (pa, .inr (4, [.int mc, .ref el, .int 0]))]) [0, 1] (by decide) rfl
  have hFc := va_free (wc := [(h, .inr (13, [.ref pe, .ref ne, .ref pa, .ref ro, .int dy])), (pa, .inr (4, [.int mc, .ref el, .int 0]))]) hD hS hA [0, 1] rfl
  refine vx_calli (vx_runV (As := [.int p0]) (rest := [.int 0, .ref oa]) ⟨hx, hb, hml, hown, hts⟩ (c_X8_editorOf l hst D cy ed s.heap.size h pe ne pa ro dy mc el p0) (cwV 1 hts (zx_GV mm_976 mm_977 mm_978 mm_71 mm_979) rfl rfl rfl (by decide +kernel) ⟨(Nat.le_of_ble_eq_true rfl), (Nat.le_of_ble_eq_true rfl)⟩) ⟨zx_blind, va_recv hK hPc (ci := 13) (q0 := 0) rfl rfl, zx_give hPc hK hDc hS hFc hZ hN⟩ rfl rfl hl.1 rfl (lv_room (Nat.le_of_ble_eq_true rfl)) dL_editorOf_4 ⟨(Nat.le_of_ble_eq_true rfl), (Nat.le_of_ble_eq_true rfl)⟩) hS (fun q _ h => hFc q h) hFc (fun q _ h => hFc q h) (fun E9 ce9 q9 _ t H locs ht hvm _ hBX hz1 hk1 hS hce hcv hcl => ?_) (fun r9 u t H locs ht hvm hw hB hz1 hk1 hS => ?_)
  · have hBX : (fun E9 => E9 = "java/lang/IndexOutOfBoundsException") E9 := hBX
    obtain rfl := hBX
    refine vx_catch hown [] { startPc := 0, endPc := 9, handlerPc := 12, catchType := 21 } [({ startPc := 0, endPc := 9, handlerPc := 15, catchType := 64 } : ExceptionTableEntry)] (by rw [htb]; rfl) (fun z9 h9 => absurd h9 List.not_mem_nil) (by decide) (by decide) (hts (.classLink RL 21 "java/lang/IndexOutOfBoundsException") (zx_Gc mm_432)) (zx_cast_moved (Vm.Alike.refl _) (hN.2.2.1 _ _ (List.mem_of_getElem? (i := 475) (by decide +kernel)))) hce hcv hcl ?_
    obtain ⟨hP, hD⟩ := va_join (wr := [(oa, .inl (cy 3, 1, .inr (.inl og)))]) (w1 := []) hP hD [0, 1] [2] rfl rfl (by decide) (by decide) hk1 hFc zx_P0 zx_D0
    have hP : va_P D vwCl [(oa, .inl (cy 3, 1, .inr (.inl og)))] H := hP
    have hD : va_D A [(oa, .inl (cy 3, 1, .inr (.inl og)))] := hD
    refine W.widen (k := 1) (n := 6) (Nat.le_of_ble_eq_true rfl) (Nat.le_of_ble_eq_true rfl) ?_
    refine lv_astore_n (lv' := [(3, .ref q9), (0, .ref h), (1, .int p0), (2, .ref oa)]) hx hb dL_editorOf_12 rfl hl (by decide) rfl (fun ls hl => ?_)
    refine lv_iconst (v := 1) hx hb dL_editorOf_13 (by decide) ?_
    have hP9 := hP.sub (ws' := []) [] rfl
    have hD9 := hD.sub (ws' := []) [] (by decide) rfl
    refine vx_ret ?_
    exact W.iret (v := 1) hx hb hr (fun t ht hW => ⟨⟨1, (), rfl, rfl, zx_fin hP9 hD9 hK ht hW⟩, hS.F ht⟩) hS.2.2 dL_editorOf_14
  · exact hw.elim
set_option maxHeartbeats 4000000 in
set_option maxRecDepth 100000 in
theorem c_L_invite (l : Launch) (hst : l.stackTraces = false) (D : va_G) (cy : Nat → ClassId) (ed sz : Nat) (h : Nat) (pe : Nat) (ne : Nat) (pa : Nat) (ro : Nat) (dy : Int32) (mc : Int32) (el : Nat) (oa : Nat) (og : Nat → Int64) (p0 : Int32) (p1 : Int32) : vx_Met l yL_invite wzL_invite ({ frames := 9, cells := 1, slots := 6, locals := 149 }) (zx_Pc D cy ed sz [.ref h, .int p0, .int p1, .ref oa] [(h, .inr (13, [.ref pe, .ref ne, .ref pa, .ref ro, .int dy])), (pa, .inr (4, [.int mc, .ref el, .int 0])), (oa, .inl (cy 3, 1, .inr (.inl og)))]) (va_Qi (fun (r9 : Int32) (u9 : Unit) => r9 = 1) (fun (u9 : Unit) (t9 : State) => zx_At D cy (va_A [(h, .inr (13, [.ref pe, .ref ne, .ref pa, .ref ro, .int dy])), (pa, .inr (4, [.int mc, .ref el, .int 0])), (oa, .inl (cy 3, 1, .inr (.inl og)))] sz) [] t9) (va_A [(h, .inr (13, [.ref pe, .ref ne, .ref pa, .ref ro, .int dy])), (pa, .inr (4, [.int mc, .ref el, .int 0])), (oa, .inl (cy 3, 1, .inr (.inl og)))] sz)) (zx_X (fun _ => False) (va_A [(h, .inr (13, [.ref pe, .ref ne, .ref pa, .ref ro, .int dy])), (pa, .inr (4, [.int mc, .ref el, .int 0])), (oa, .inl (cy 3, 1, .inr (.inl og)))] sz)) 1 6 (va_A [(h, .inr (13, [.ref pe, .ref ne, .ref pa, .ref ro, .int dy])), (pa, .inr (4, [.int mc, .ref el, .int 0])), (oa, .inl (cy 3, 1, .inr (.inl og)))] sz) := by
  refine vx_ofWH (cc := cL_invite) (maxL := 5) (ret := (some .int)) (hh := [(0, 10, 13, 21), (0, 10, 17, 13), (0, 10, 21, 45)]) (by decide) rfl ?_
  intro p e s m args below meth c s₁ B hml hv
  have htb := vx_table (x := objectInit) B (atoms_spec (ws := wzL_invite) B.pre _ List.mem_cons_self)
  obtain ⟨rfl, hsz, hP, hK, hD0, hZ, hN⟩ := hv
  have hx := B.exec
  have hb := B.bytes
  have hr := B.returns
  have hts := atoms_spec (ws := wzL_invite) B.pre
  have hown : s.vm.findClass RL = some m.cls := findClass_of_methodNamed B.named
  have hlocks := B.notSynchronized
  subst hsz
  have hD := hD0.self (sz := s.heap.size)
  generalize hAe : va_A [(h, .inr (13, [.ref pe, .ref ne, .ref pa, .ref ro, .int dy])), (pa, .inr (4, [.int mc, .ref el, .int 0])), (oa, .inl (cy 3, 1, .inr (.inl og)))] s.heap.size = A at hD hZ ⊢
  have hA : ∀ q : Nat, s.heap.size ≤ q → A q := fun q h => by rw [← hAe]; exact Or.inr h
  have hS : va_S A s.heap s.heap [] := va_S.rf
  have hP : va_P D vwCl [(h, .inr (13, [.ref pe, .ref ne, .ref pa, .ref ro, .int dy])), (pa, .inr (4, [.int mc, .ref el, .int 0])), (oa, .inl (cy 3, 1, .inr (.inl og)))] s.heap := hP
  have hl := lv_entry ([.ref h, .int p0, .int p1, .ref oa]) (n := 5) (Nat.le_of_ble_eq_true rfl)
  rw [lg_entry_eq]
  generalize (lg_sl ([.ref h, .int p0, .int p1, .ref oa]) ++ List.replicate (5 - (lg_sl ([.ref h, .int p0, .int p1, .ref oa])).length) Slot.unset).toArray = ls at hl ⊢
  have hl : lv_has ls 5 [(0, .ref h), (1, .int p0), (2, .int p1), (3, .ref oa)] := hl
  refine lv_aload_n hx hb dL_invite_0 rfl (lv_at hl 3 rfl) ?_
  refine lv_iconst (v := 0) hx hb dL_invite_1 (by decide) ?_
  refine lv_aload_n hx hb dL_invite_2 rfl (lv_at hl 0 rfl) ?_
  refine lv_iload_n hx hb dL_invite_3 rfl (lv_at hl 1 rfl) ?_
  refine lv_iload_n hx hb dL_invite_4 rfl (lv_at hl 2 rfl) ?_
  have hPc := hP.sub (ws' := [(h, .inr (13, [.ref pe, .ref ne, .ref pa, .ref ro, .int dy])), (pa, .inr (4, [.int mc, .ref el, .int 0]))]) [0, 1] rfl
  have hDc := hD.sub (ws' := [(h, .inr (13, [.ref pe, .ref ne, .ref pa, .ref ro, .int dy])), (pa, .inr (4, [.int mc, .ref el, .int 0]))]) [0, 1] (by decide) rfl
  have hFc := va_free (wc := [(h, .inr (13, [.ref pe, .ref ne, .ref pa, .ref ro, .int dy])), (pa, .inr (4, [.int mc, .ref el, .int 0]))]) hD hS hA [0, 1] rfl
  refine vx_calli (vx_runV (As := [.int p0, .int p1]) (rest := [.int 0, .ref oa]) ⟨hx, hb, hml, hown, hts⟩ (c_X8_invite l hst D cy ed s.heap.size h pe ne pa ro dy mc el p0 p1) (cwV 2 hts (zx_GV mm_983 mm_984 mm_985 mm_71 mm_986) rfl rfl rfl (by decide +kernel) ⟨(Nat.le_of_ble_eq_true rfl), (Nat.le_of_ble_eq_true rfl)⟩) ⟨zx_blind, va_recv hK hPc (ci := 13) (q0 := 0) rfl rfl, zx_give hPc hK hDc hS hFc hZ hN⟩ rfl rfl hl.1 rfl (lv_room (Nat.le_of_ble_eq_true rfl)) dL_invite_5 ⟨(Nat.le_of_ble_eq_true rfl), (Nat.le_of_ble_eq_true rfl)⟩) hS (fun q _ h => hFc q h) hFc (fun q _ h => hFc q h) (fun E9 ce9 q9 _ t H locs ht hvm _ hBX hz1 hk1 hS hce hcv hcl => ?_) (fun r9 u t H locs ht hvm hw hB hz1 hk1 hS => ?_)
  · have hBX : (fun E9 => E9 = "java/lang/IndexOutOfBoundsException") E9 := hBX
    obtain rfl := hBX
    refine vx_catch hown [] { startPc := 0, endPc := 10, handlerPc := 13, catchType := 21 } [({ startPc := 0, endPc := 10, handlerPc := 17, catchType := 13 } : ExceptionTableEntry), ({ startPc := 0, endPc := 10, handlerPc := 21, catchType := 45 } : ExceptionTableEntry)] (by rw [htb]; rfl) (fun z9 h9 => absurd h9 List.not_mem_nil) (by decide) (by decide) (hts (.classLink RL 21 "java/lang/IndexOutOfBoundsException") (zx_Gc mm_432)) (zx_cast_moved (Vm.Alike.refl _) (hN.2.2.1 _ _ (List.mem_of_getElem? (i := 475) (by decide +kernel)))) hce hcv hcl ?_
    obtain ⟨hP, hD⟩ := va_join (wr := [(oa, .inl (cy 3, 1, .inr (.inl og)))]) (w1 := []) hP hD [0, 1] [2] rfl rfl (by decide) (by decide) hk1 hFc zx_P0 zx_D0
    have hP : va_P D vwCl [(oa, .inl (cy 3, 1, .inr (.inl og)))] H := hP
    have hD : va_D A [(oa, .inl (cy 3, 1, .inr (.inl og)))] := hD
    refine W.widen (k := 1) (n := 6) (Nat.le_of_ble_eq_true rfl) (Nat.le_of_ble_eq_true rfl) ?_
    refine lv_astore (lv' := [(4, .ref q9), (0, .ref h), (1, .int p0), (2, .int p1), (3, .ref oa)]) hx hb dL_invite_13 hl (by decide) rfl (fun ls hl => ?_)
    refine lv_iconst (v := 1) hx hb dL_invite_15 (by decide) ?_
    have hP9 := hP.sub (ws' := []) [] rfl
    have hD9 := hD.sub (ws' := []) [] (by decide) rfl
    refine vx_ret ?_
    exact W.iret (v := 1) hx hb hr (fun t ht hW => ⟨⟨1, (), rfl, rfl, zx_fin hP9 hD9 hK ht hW⟩, hS.F ht⟩) hS.2.2 dL_invite_16
  · exact hw.elim
set_option maxHeartbeats 4000000 in
set_option maxRecDepth 100000 in
theorem c_L_invitation (l : Launch) (hst : l.stackTraces = false) (D : va_G) (cy : Nat → ClassId) (ed sz : Nat) (h : Nat) (pe : Nat) (ne : Nat) (pa : Nat) (ro : Nat) (dy : Int32) (mc : Int32) (el : Nat) (oa : Nat) (og : Nat → Int64) (p0 : Int32) (p1 : Int32) : vx_Met l yL_invitation wzL_invitation ({ frames := 9, cells := 1, slots := 6, locals := 146 }) (zx_Pc D cy ed sz [.ref h, .int p0, .int p1, .ref oa] [(h, .inr (13, [.ref pe, .ref ne, .ref pa, .ref ro, .int dy])), (pa, .inr (4, [.int mc, .ref el, .int 0])), (oa, .inl (cy 3, 1, .inr (.inl og)))]) (va_Qi (fun (r9 : Int32) (u9 : Unit) => r9 = 1) (fun (u9 : Unit) (t9 : State) => zx_At D cy (va_A [(h, .inr (13, [.ref pe, .ref ne, .ref pa, .ref ro, .int dy])), (pa, .inr (4, [.int mc, .ref el, .int 0])), (oa, .inl (cy 3, 1, .inr (.inl og)))] sz) [] t9) (va_A [(h, .inr (13, [.ref pe, .ref ne, .ref pa, .ref ro, .int dy])), (pa, .inr (4, [.int mc, .ref el, .int 0])), (oa, .inl (cy 3, 1, .inr (.inl og)))] sz)) (zx_X (fun _ => False) (va_A [(h, .inr (13, [.ref pe, .ref ne, .ref pa, .ref ro, .int dy])), (pa, .inr (4, [.int mc, .ref el, .int 0])), (oa, .inl (cy 3, 1, .inr (.inl og)))] sz)) 1 6 (va_A [(h, .inr (13, [.ref pe, .ref ne, .ref pa, .ref ro, .int dy])), (pa, .inr (4, [.int mc, .ref el, .int 0])), (oa, .inl (cy 3, 1, .inr (.inl og)))] sz) := by
  refine vx_ofWH (cc := cL_invitation) (maxL := 5) (ret := (some .int)) (hh := [(0, 10, 13, 21)]) (by decide) rfl ?_
  intro p e s m args below meth c s₁ B hml hv
  have htb := vx_table (x := objectInit) B (atoms_spec (ws := wzL_invitation) B.pre _ List.mem_cons_self)
  obtain ⟨rfl, hsz, hP, hK, hD0, hZ, hN⟩ := hv
  have hx := B.exec
  have hb := B.bytes
  have hr := B.returns
  have hts := atoms_spec (ws := wzL_invitation) B.pre
  have hown : s.vm.findClass RL = some m.cls := findClass_of_methodNamed B.named
  have hlocks := B.notSynchronized
  subst hsz
  have hD := hD0.self (sz := s.heap.size)
  generalize hAe : va_A [(h, .inr (13, [.ref pe, .ref ne, .ref pa, .ref ro, .int dy])), (pa, .inr (4, [.int mc, .ref el, .int 0])), (oa, .inl (cy 3, 1, .inr (.inl og)))] s.heap.size = A at hD hZ ⊢
  have hA : ∀ q : Nat, s.heap.size ≤ q → A q := fun q h => by rw [← hAe]; exact Or.inr h
  have hS : va_S A s.heap s.heap [] := va_S.rf
  have hP : va_P D vwCl [(h, .inr (13, [.ref pe, .ref ne, .ref pa, .ref ro, .int dy])), (pa, .inr (4, [.int mc, .ref el, .int 0])), (oa, .inl (cy 3, 1, .inr (.inl og)))] s.heap := hP
  have hl := lv_entry ([.ref h, .int p0, .int p1, .ref oa]) (n := 5) (Nat.le_of_ble_eq_true rfl)
  rw [lg_entry_eq]
  generalize (lg_sl ([.ref h, .int p0, .int p1, .ref oa]) ++ List.replicate (5 - (lg_sl ([.ref h, .int p0, .int p1, .ref oa])).length) Slot.unset).toArray = ls at hl ⊢
  have hl : lv_has ls 5 [(0, .ref h), (1, .int p0), (2, .int p1), (3, .ref oa)] := hl
  refine lv_aload_n hx hb dL_invitation_0 rfl (lv_at hl 3 rfl) ?_
  refine lv_iconst (v := 0) hx hb dL_invitation_1 (by decide) ?_
  refine lv_aload_n hx hb dL_invitation_2 rfl (lv_at hl 0 rfl) ?_
  refine lv_iload_n hx hb dL_invitation_3 rfl (lv_at hl 1 rfl) ?_
  refine lv_iload_n hx hb dL_invitation_4 rfl (lv_at hl 2 rfl) ?_
  have hPc := hP.sub (ws' := [(h, .inr (13, [.ref pe, .ref ne, .ref pa, .ref ro, .int dy])), (pa, .inr (4, [.int mc, .ref el, .int 0]))]) [0, 1] rfl
  have hDc := hD.sub (ws' := [(h, .inr (13, [.ref pe, .ref ne, .ref pa, .ref ro, .int dy])), (pa, .inr (4, [.int mc, .ref el, .int 0]))]) [0, 1] (by decide) rfl
  have hFc := va_free (wc := [(h, .inr (13, [.ref pe, .ref ne, .ref pa, .ref ro, .int dy])), (pa, .inr (4, [.int mc, .ref el, .int 0]))]) hD hS hA [0, 1] rfl
  refine vx_calli (vx_runV (As := [.int p0, .int p1]) (rest := [.int 0, .ref oa]) ⟨hx, hb, hml, hown, hts⟩ (c_X8_invitation l hst D cy ed s.heap.size h pe ne pa ro dy mc el p0 p1) (cwV 2 hts (zx_GV mm_1019 mm_1020 mm_1021 mm_71 mm_1022) rfl rfl rfl (by decide +kernel) ⟨(Nat.le_of_ble_eq_true rfl), (Nat.le_of_ble_eq_true rfl)⟩) ⟨zx_blind, va_recv hK hPc (ci := 13) (q0 := 0) rfl rfl, zx_give hPc hK hDc hS hFc hZ hN⟩ rfl rfl hl.1 rfl (lv_room (Nat.le_of_ble_eq_true rfl)) dL_invitation_5 ⟨(Nat.le_of_ble_eq_true rfl), (Nat.le_of_ble_eq_true rfl)⟩) hS (fun q _ h => hFc q h) hFc (fun q _ h => hFc q h) (fun E9 ce9 q9 _ t H locs ht hvm _ hBX hz1 hk1 hS hce hcv hcl => ?_) (fun r9 u t H locs ht hvm hw hB hz1 hk1 hS => ?_)
  · have hBX : (fun E9 => E9 = "java/lang/IndexOutOfBoundsException") E9 := hBX
    obtain rfl := hBX
    refine vx_catch hown [] { startPc := 0, endPc := 10, handlerPc := 13, catchType := 21 } [] (by rw [htb]; rfl) (fun z9 h9 => absurd h9 List.not_mem_nil) (by decide) (by decide) (hts (.classLink RL 21 "java/lang/IndexOutOfBoundsException") (zx_Gc mm_432)) (zx_cast_moved (Vm.Alike.refl _) (hN.2.2.1 _ _ (List.mem_of_getElem? (i := 475) (by decide +kernel)))) hce hcv hcl ?_
    obtain ⟨hP, hD⟩ := va_join (wr := [(oa, .inl (cy 3, 1, .inr (.inl og)))]) (w1 := []) hP hD [0, 1] [2] rfl rfl (by decide) (by decide) hk1 hFc zx_P0 zx_D0
    have hP : va_P D vwCl [(oa, .inl (cy 3, 1, .inr (.inl og)))] H := hP
    have hD : va_D A [(oa, .inl (cy 3, 1, .inr (.inl og)))] := hD
    refine W.widen (k := 1) (n := 6) (Nat.le_of_ble_eq_true rfl) (Nat.le_of_ble_eq_true rfl) ?_
    refine lv_astore (lv' := [(4, .ref q9), (0, .ref h), (1, .int p0), (2, .int p1), (3, .ref oa)]) hx hb dL_invitation_13 hl (by decide) rfl (fun ls hl => ?_)
    refine lv_iconst (v := 1) hx hb dL_invitation_15 (by decide) ?_
    have hP9 := hP.sub (ws' := []) [] rfl
    have hD9 := hD.sub (ws' := []) [] (by decide) rfl
    refine vx_ret ?_
    exact W.iret (v := 1) hx hb hr (fun t ht hW => ⟨⟨1, (), rfl, rfl, zx_fin hP9 hD9 hK ht hW⟩, hS.F ht⟩) hS.2.2 dL_invitation_16
  · exact hw.elim
set_option maxHeartbeats 4000000 in
set_option maxRecDepth 100000 in
theorem c_L_answer (l : Launch) (hst : l.stackTraces = false) (D : va_G) (cy : Nat → ClassId) (ed sz : Nat) (h : Nat) (pe : Nat) (ne : Nat) (pa : Nat) (ro : Nat) (dy : Int32) (mc : Int32) (el : Nat) (oa : Nat) (og : Nat → Int64) (p0 : Int32) (p1 : Int32) (p2 : Int32) : vx_Met l yL_answer wzL_answer ({ frames := 9, cells := 1, slots := 6, locals := 148 }) (zx_Pc D cy ed sz [.ref h, .int p0, .int p1, .int p2, .ref oa] [(h, .inr (13, [.ref pe, .ref ne, .ref pa, .ref ro, .int dy])), (pa, .inr (4, [.int mc, .ref el, .int 0])), (oa, .inl (cy 3, 1, .inr (.inl og)))]) (va_Qi (fun (r9 : Int32) (u9 : Unit) => r9 = 1) (fun (u9 : Unit) (t9 : State) => zx_At D cy (va_A [(h, .inr (13, [.ref pe, .ref ne, .ref pa, .ref ro, .int dy])), (pa, .inr (4, [.int mc, .ref el, .int 0])), (oa, .inl (cy 3, 1, .inr (.inl og)))] sz) [] t9) (va_A [(h, .inr (13, [.ref pe, .ref ne, .ref pa, .ref ro, .int dy])), (pa, .inr (4, [.int mc, .ref el, .int 0])), (oa, .inl (cy 3, 1, .inr (.inl og)))] sz)) (zx_X (fun _ => False) (va_A [(h, .inr (13, [.ref pe, .ref ne, .ref pa, .ref ro, .int dy])), (pa, .inr (4, [.int mc, .ref el, .int 0])), (oa, .inl (cy 3, 1, .inr (.inl og)))] sz)) 1 6 (va_A [(h, .inr (13, [.ref pe, .ref ne, .ref pa, .ref ro, .int dy])), (pa, .inr (4, [.int mc, .ref el, .int 0])), (oa, .inl (cy 3, 1, .inr (.inl og)))] sz) := by
  refine vx_ofWH (cc := cL_answer) (maxL := 6) (ret := (some .int)) (hh := [(0, 12, 15, 21), (0, 12, 19, 45)]) (by decide) rfl ?_
  intro p e s m args below meth c s₁ B hml hv
  have htb := vx_table (x := objectInit) B (atoms_spec (ws := wzL_answer) B.pre _ List.mem_cons_self)
  obtain ⟨rfl, hsz, hP, hK, hD0, hZ, hN⟩ := hv
  have hx := B.exec
  have hb := B.bytes
  have hr := B.returns
  have hts := atoms_spec (ws := wzL_answer) B.pre
  have hown : s.vm.findClass RL = some m.cls := findClass_of_methodNamed B.named
  have hlocks := B.notSynchronized
  subst hsz
  have hD := hD0.self (sz := s.heap.size)
  generalize hAe : va_A [(h, .inr (13, [.ref pe, .ref ne, .ref pa, .ref ro, .int dy])), (pa, .inr (4, [.int mc, .ref el, .int 0])), (oa, .inl (cy 3, 1, .inr (.inl og)))] s.heap.size = A at hD hZ ⊢
  have hA : ∀ q : Nat, s.heap.size ≤ q → A q := fun q h => by rw [← hAe]; exact Or.inr h
  have hS : va_S A s.heap s.heap [] := va_S.rf
  have hP : va_P D vwCl [(h, .inr (13, [.ref pe, .ref ne, .ref pa, .ref ro, .int dy])), (pa, .inr (4, [.int mc, .ref el, .int 0])), (oa, .inl (cy 3, 1, .inr (.inl og)))] s.heap := hP
  have hl := lv_entry ([.ref h, .int p0, .int p1, .int p2, .ref oa]) (n := 6) (Nat.le_of_ble_eq_true rfl)
  rw [lg_entry_eq]
  generalize (lg_sl ([.ref h, .int p0, .int p1, .int p2, .ref oa]) ++ List.replicate (6 - (lg_sl ([.ref h, .int p0, .int p1, .int p2, .ref oa])).length) Slot.unset).toArray = ls at hl ⊢
  have hl : lv_has ls 6 [(0, .ref h), (1, .int p0), (2, .int p1), (3, .int p2), (4, .ref oa)] := hl
  refine lv_aload hx hb dL_answer_0 (lv_at hl 4 rfl) ?_
  refine lv_iconst (v := 0) hx hb dL_answer_2 (by decide) ?_
  refine lv_aload_n hx hb dL_answer_3 rfl (lv_at hl 0 rfl) ?_
  refine lv_iload_n hx hb dL_answer_4 rfl (lv_at hl 1 rfl) ?_
  refine lv_iload_n hx hb dL_answer_5 rfl (lv_at hl 2 rfl) ?_
  refine lv_iload_n hx hb dL_answer_6 rfl (lv_at hl 3 rfl) ?_
  have hPc := hP.sub (ws' := [(h, .inr (13, [.ref pe, .ref ne, .ref pa, .ref ro, .int dy])), (pa, .inr (4, [.int mc, .ref el, .int 0]))]) [0, 1] rfl
  have hDc := hD.sub (ws' := [(h, .inr (13, [.ref pe, .ref ne, .ref pa, .ref ro, .int dy])), (pa, .inr (4, [.int mc, .ref el, .int 0]))]) [0, 1] (by decide) rfl
  have hFc := va_free (wc := [(h, .inr (13, [.ref pe, .ref ne, .ref pa, .ref ro, .int dy])), (pa, .inr (4, [.int mc, .ref el, .int 0]))]) hD hS hA [0, 1] rfl
  refine vx_calli (vx_runV (As := [.int p0, .int p1, .int p2]) (rest := [.int 0, .ref oa]) ⟨hx, hb, hml, hown, hts⟩ (c_X8_answer l hst D cy ed s.heap.size h pe ne pa ro dy mc el p0 p1 p2) (cwV 3 hts (zx_GV mm_1026 mm_1027 mm_1028 mm_71 mm_1029) rfl rfl rfl (by decide +kernel) ⟨(Nat.le_of_ble_eq_true rfl), (Nat.le_of_ble_eq_true rfl)⟩) ⟨zx_blind, va_recv hK hPc (ci := 13) (q0 := 0) rfl rfl, zx_give hPc hK hDc hS hFc hZ hN⟩ rfl rfl hl.1 rfl (lv_room (Nat.le_of_ble_eq_true rfl)) dL_answer_7 ⟨(Nat.le_of_ble_eq_true rfl), (Nat.le_of_ble_eq_true rfl)⟩) hS (fun q _ h => hFc q h) hFc (fun q _ h => hFc q h) (fun E9 ce9 q9 _ t H locs ht hvm _ hBX hz1 hk1 hS hce hcv hcl => ?_) (fun r9 u t H locs ht hvm hw hB hz1 hk1 hS => ?_)
  · have hBX : (fun E9 => E9 = "java/lang/IndexOutOfBoundsException") E9 := hBX
    obtain rfl := hBX
    refine vx_catch hown [] { startPc := 0, endPc := 12, handlerPc := 15, catchType := 21 } [({ startPc := 0, endPc := 12, handlerPc := 19, catchType := 45 } : ExceptionTableEntry)] (by rw [htb]; rfl) (fun z9 h9 => absurd h9 List.not_mem_nil) (by decide) (by decide) (hts (.classLink RL 21 "java/lang/IndexOutOfBoundsException") (zx_Gc mm_432)) (zx_cast_moved (Vm.Alike.refl _) (hN.2.2.1 _ _ (List.mem_of_getElem? (i := 475) (by decide +kernel)))) hce hcv hcl ?_
    obtain ⟨hP, hD⟩ := va_join (wr := [(oa, .inl (cy 3, 1, .inr (.inl og)))]) (w1 := []) hP hD [0, 1] [2] rfl rfl (by decide) (by decide) hk1 hFc zx_P0 zx_D0
    have hP : va_P D vwCl [(oa, .inl (cy 3, 1, .inr (.inl og)))] H := hP
    have hD : va_D A [(oa, .inl (cy 3, 1, .inr (.inl og)))] := hD
    refine W.widen (k := 1) (n := 6) (Nat.le_of_ble_eq_true rfl) (Nat.le_of_ble_eq_true rfl) ?_
    refine lv_astore (lv' := [(5, .ref q9), (0, .ref h), (1, .int p0), (2, .int p1), (3, .int p2), (4, .ref oa)]) hx hb dL_answer_15 hl (by decide) rfl (fun ls hl => ?_)
    refine lv_iconst (v := 1) hx hb dL_answer_17 (by decide) ?_
    have hP9 := hP.sub (ws' := []) [] rfl
    have hD9 := hD.sub (ws' := []) [] (by decide) rfl
    refine vx_ret ?_
    exact W.iret (v := 1) hx hb hr (fun t ht hW => ⟨⟨1, (), rfl, rfl, zx_fin hP9 hD9 hK ht hW⟩, hS.F ht⟩) hS.2.2 dL_answer_18
  · exact hw.elim
set_option maxHeartbeats 4000000 in
set_option maxRecDepth 100000 in
theorem c_L_report (l : Launch) (hst : l.stackTraces = false) (D : va_G) (cy : Nat → ClassId) (ed sz : Nat) (h : Nat) (pe : Nat) (ne : Nat) (pa : Nat) (ro : Nat) (dy : Int32) (mc : Int32) (el : Nat) (oa : Nat) (og : Nat → Int64) (p0 : Int32) (p1 : Int32) (p2 : Int32) (p3 : Int32) (p4 : Int32) : vx_Met l yL_report wzL_report ({ frames := 9, cells := 1, slots := 6, locals := 149 }) (zx_Pc D cy ed sz [.ref h, .int p0, .int p1, .int p2, .int p3, .int p4, .ref oa] [(h, .inr (13, [.ref pe, .ref ne, .ref pa, .ref ro, .int dy])), (pa, .inr (4, [.int mc, .ref el, .int 0])), (oa, .inl (cy 3, 1, .inr (.inl og)))]) (va_Qi (fun (r9 : Int32) (u9 : Unit) => r9 = 1) (fun (u9 : Unit) (t9 : State) => zx_At D cy (va_A [(h, .inr (13, [.ref pe, .ref ne, .ref pa, .ref ro, .int dy])), (pa, .inr (4, [.int mc, .ref el, .int 0])), (oa, .inl (cy 3, 1, .inr (.inl og)))] sz) [] t9) (va_A [(h, .inr (13, [.ref pe, .ref ne, .ref pa, .ref ro, .int dy])), (pa, .inr (4, [.int mc, .ref el, .int 0])), (oa, .inl (cy 3, 1, .inr (.inl og)))] sz)) (zx_X (fun _ => False) (va_A [(h, .inr (13, [.ref pe, .ref ne, .ref pa, .ref ro, .int dy])), (pa, .inr (4, [.int mc, .ref el, .int 0])), (oa, .inl (cy 3, 1, .inr (.inl og)))] sz)) 1 6 (va_A [(h, .inr (13, [.ref pe, .ref ne, .ref pa, .ref ro, .int dy])), (pa, .inr (4, [.int mc, .ref el, .int 0])), (oa, .inl (cy 3, 1, .inr (.inl og)))] sz) := by
  refine vx_ofWH (cc := cL_report) (maxL := 8) (ret := (some .int)) (hh := [(0, 16, 19, 21), (0, 16, 23, 13), (0, 16, 27, 45)]) (by decide) rfl ?_
  intro p e s m args below meth c s₁ B hml hv
  have htb := vx_table (x := objectInit) B (atoms_spec (ws := wzL_report) B.pre _ List.mem_cons_self)
  obtain ⟨rfl, hsz, hP, hK, hD0, hZ, hN⟩ := hv
  have hx := B.exec
  have hb := B.bytes
  have hr := B.returns
  have hts := atoms_spec (ws := wzL_report) B.pre
  have hown : s.vm.findClass RL = some m.cls := findClass_of_methodNamed B.named
  have hlocks := B.notSynchronized
  subst hsz
  have hD := hD0.self (sz := s.heap.size)
  generalize hAe : va_A [(h, .inr (13, [.ref pe, .ref ne, .ref pa, .ref ro, .int dy])), (pa, .inr (4, [.int mc, .ref el, .int 0])), (oa, .inl (cy 3, 1, .inr (.inl og)))] s.heap.size = A at hD hZ ⊢
  have hA : ∀ q : Nat, s.heap.size ≤ q → A q := fun q h => by rw [← hAe]; exact Or.inr h
  have hS : va_S A s.heap s.heap [] := va_S.rf
  have hP : va_P D vwCl [(h, .inr (13, [.ref pe, .ref ne, .ref pa, .ref ro, .int dy])), (pa, .inr (4, [.int mc, .ref el, .int 0])), (oa, .inl (cy 3, 1, .inr (.inl og)))] s.heap := hP
  have hl := lv_entry ([.ref h, .int p0, .int p1, .int p2, .int p3, .int p4, .ref oa]) (n := 8) (Nat.le_of_ble_eq_true rfl)
  rw [lg_entry_eq]
  generalize (lg_sl ([.ref h, .int p0, .int p1, .int p2, .int p3, .int p4, .ref oa]) ++ List.replicate (8 - (lg_sl ([.ref h, .int p0, .int p1, .int p2, .int p3, .int p4, .ref oa])).length) Slot.unset).toArray = ls at hl ⊢
  have hl : lv_has ls 8 [(0, .ref h), (1, .int p0), (2, .int p1), (3, .int p2), (4, .int p3), (5, .int p4), (6, .ref oa)] := hl
  refine lv_aload hx hb dL_report_0 (lv_at hl 6 rfl) ?_
  refine lv_iconst (v := 0) hx hb dL_report_2 (by decide) ?_
  refine lv_aload_n hx hb dL_report_3 rfl (lv_at hl 0 rfl) ?_
  refine lv_iload_n hx hb dL_report_4 rfl (lv_at hl 1 rfl) ?_
  refine lv_iload_n hx hb dL_report_5 rfl (lv_at hl 2 rfl) ?_
  refine lv_iload_n hx hb dL_report_6 rfl (lv_at hl 3 rfl) ?_
  refine lv_iload hx hb dL_report_7 (lv_at hl 4 rfl) ?_
  refine lv_iload hx hb dL_report_9 (lv_at hl 5 rfl) ?_
  have hPc := hP.sub (ws' := [(h, .inr (13, [.ref pe, .ref ne, .ref pa, .ref ro, .int dy])), (pa, .inr (4, [.int mc, .ref el, .int 0]))]) [0, 1] rfl
  have hDc := hD.sub (ws' := [(h, .inr (13, [.ref pe, .ref ne, .ref pa, .ref ro, .int dy])), (pa, .inr (4, [.int mc, .ref el, .int 0]))]) [0, 1] (by decide) rfl
  have hFc := va_free (wc := [(h, .inr (13, [.ref pe, .ref ne, .ref pa, .ref ro, .int dy])), (pa, .inr (4, [.int mc, .ref el, .int 0]))]) hD hS hA [0, 1] rfl
  refine vx_calli (vx_runV (As := [.int p0, .int p1, .int p2, .int p3, .int p4]) (rest := [.int 0, .ref oa]) ⟨hx, hb, hml, hown, hts⟩ (c_X8_report l hst D cy ed s.heap.size h pe ne pa ro dy mc el p0 p1 p2 p3 p4) (cwV 5 hts (zx_GV mm_1037 mm_1038 mm_1039 mm_71 mm_1040) rfl rfl rfl (by decide +kernel) ⟨(Nat.le_of_ble_eq_true rfl), (Nat.le_of_ble_eq_true rfl)⟩) ⟨zx_blind, va_recv hK hPc (ci := 13) (q0 := 0) rfl rfl, zx_give hPc hK hDc hS hFc hZ hN⟩ rfl rfl hl.1 rfl (lv_room (Nat.le_of_ble_eq_true rfl)) dL_report_11 ⟨(Nat.le_of_ble_eq_true rfl), (Nat.le_of_ble_eq_true rfl)⟩) hS (fun q _ h => hFc q h) hFc (fun q _ h => hFc q h) (fun E9 ce9 q9 _ t H locs ht hvm _ hBX hz1 hk1 hS hce hcv hcl => ?_) (fun r9 u t H locs ht hvm hw hB hz1 hk1 hS => ?_)
  · have hBX : (fun E9 => E9 = "java/lang/IndexOutOfBoundsException") E9 := hBX
    obtain rfl := hBX
    refine vx_catch hown [] { startPc := 0, endPc := 16, handlerPc := 19, catchType := 21 } [({ startPc := 0, endPc := 16, handlerPc := 23, catchType := 13 } : ExceptionTableEntry), ({ startPc := 0, endPc := 16, handlerPc := 27, catchType := 45 } : ExceptionTableEntry)] (by rw [htb]; rfl) (fun z9 h9 => absurd h9 List.not_mem_nil) (by decide) (by decide) (hts (.classLink RL 21 "java/lang/IndexOutOfBoundsException") (zx_Gc mm_432)) (zx_cast_moved (Vm.Alike.refl _) (hN.2.2.1 _ _ (List.mem_of_getElem? (i := 475) (by decide +kernel)))) hce hcv hcl ?_
    obtain ⟨hP, hD⟩ := va_join (wr := [(oa, .inl (cy 3, 1, .inr (.inl og)))]) (w1 := []) hP hD [0, 1] [2] rfl rfl (by decide) (by decide) hk1 hFc zx_P0 zx_D0
    have hP : va_P D vwCl [(oa, .inl (cy 3, 1, .inr (.inl og)))] H := hP
    have hD : va_D A [(oa, .inl (cy 3, 1, .inr (.inl og)))] := hD
    refine W.widen (k := 1) (n := 6) (Nat.le_of_ble_eq_true rfl) (Nat.le_of_ble_eq_true rfl) ?_
    refine lv_astore (lv' := [(7, .ref q9), (0, .ref h), (1, .int p0), (2, .int p1), (3, .int p2), (4, .int p3), (5, .int p4), (6, .ref oa)]) hx hb dL_report_19 hl (by decide) rfl (fun ls hl => ?_)
    refine lv_iconst (v := 1) hx hb dL_report_21 (by decide) ?_
    have hP9 := hP.sub (ws' := []) [] rfl
    have hD9 := hD.sub (ws' := []) [] (by decide) rfl
    refine vx_ret ?_
    exact W.iret (v := 1) hx hb hr (fun t ht hW => ⟨⟨1, (), rfl, rfl, zx_fin hP9 hD9 hK ht hW⟩, hS.F ht⟩) hS.2.2 dL_report_22
  · exact hw.elim
set_option maxHeartbeats 4000000 in
set_option maxRecDepth 100000 in
theorem c_L_evened (l : Launch) (hst : l.stackTraces = false) (D : va_G) (cy : Nat → ClassId) (ed sz : Nat) (h : Nat) (pe : Nat) (ne : Nat) (pa : Nat) (ro : Nat) (dy : Int32) (mc : Int32) (el : Nat) (oa : Nat) (og : Nat → Int64) (p0 : Int32) (p1 : Int32) : vx_Met l yL_evened wzL_evened ({ frames := 9, cells := 1, slots := 6, locals := 147 }) (zx_Pc D cy ed sz [.ref h, .int p0, .int p1, .ref oa] [(h, .inr (13, [.ref pe, .ref ne, .ref pa, .ref ro, .int dy])), (pa, .inr (4, [.int mc, .ref el, .int 0])), (oa, .inl (cy 3, 1, .inr (.inl og)))]) (va_Qi (fun (r9 : Int32) (u9 : Unit) => r9 = 1) (fun (u9 : Unit) (t9 : State) => zx_At D cy (va_A [(h, .inr (13, [.ref pe, .ref ne, .ref pa, .ref ro, .int dy])), (pa, .inr (4, [.int mc, .ref el, .int 0])), (oa, .inl (cy 3, 1, .inr (.inl og)))] sz) [] t9) (va_A [(h, .inr (13, [.ref pe, .ref ne, .ref pa, .ref ro, .int dy])), (pa, .inr (4, [.int mc, .ref el, .int 0])), (oa, .inl (cy 3, 1, .inr (.inl og)))] sz)) (zx_X (fun _ => False) (va_A [(h, .inr (13, [.ref pe, .ref ne, .ref pa, .ref ro, .int dy])), (pa, .inr (4, [.int mc, .ref el, .int 0])), (oa, .inl (cy 3, 1, .inr (.inl og)))] sz)) 1 6 (va_A [(h, .inr (13, [.ref pe, .ref ne, .ref pa, .ref ro, .int dy])), (pa, .inr (4, [.int mc, .ref el, .int 0])), (oa, .inl (cy 3, 1, .inr (.inl og)))] sz) := by
  refine vx_ofWH (cc := cL_evened) (maxL := 5) (ret := (some .int)) (hh := [(0, 10, 13, 21), (0, 10, 17, 64)]) (by decide) rfl ?_
  intro p e s m args below meth c s₁ B hml hv
  have htb := vx_table (x := objectInit) B (atoms_spec (ws := wzL_evened) B.pre _ List.mem_cons_self)
  obtain ⟨rfl, hsz, hP, hK, hD0, hZ, hN⟩ := hv
  have hx := B.exec
  have hb := B.bytes
  have hr := B.returns
  have hts := atoms_spec (ws := wzL_evened) B.pre
  have hown : s.vm.findClass RL = some m.cls := findClass_of_methodNamed B.named
  have hlocks := B.notSynchronized
  subst hsz
  have hD := hD0.self (sz := s.heap.size)
  generalize hAe : va_A [(h, .inr (13, [.ref pe, .ref ne, .ref pa, .ref ro, .int dy])), (pa, .inr (4, [.int mc, .ref el, .int 0])), (oa, .inl (cy 3, 1, .inr (.inl og)))] s.heap.size = A at hD hZ ⊢
  have hA : ∀ q : Nat, s.heap.size ≤ q → A q := fun q h => by rw [← hAe]; exact Or.inr h
  have hS : va_S A s.heap s.heap [] := va_S.rf
  have hP : va_P D vwCl [(h, .inr (13, [.ref pe, .ref ne, .ref pa, .ref ro, .int dy])), (pa, .inr (4, [.int mc, .ref el, .int 0])), (oa, .inl (cy 3, 1, .inr (.inl og)))] s.heap := hP
  have hl := lv_entry ([.ref h, .int p0, .int p1, .ref oa]) (n := 5) (Nat.le_of_ble_eq_true rfl)
  rw [lg_entry_eq]
  generalize (lg_sl ([.ref h, .int p0, .int p1, .ref oa]) ++ List.replicate (5 - (lg_sl ([.ref h, .int p0, .int p1, .ref oa])).length) Slot.unset).toArray = ls at hl ⊢
  have hl : lv_has ls 5 [(0, .ref h), (1, .int p0), (2, .int p1), (3, .ref oa)] := hl
  refine lv_aload_n hx hb dL_evened_0 rfl (lv_at hl 3 rfl) ?_
  refine lv_iconst (v := 0) hx hb dL_evened_1 (by decide) ?_
  refine lv_aload_n hx hb dL_evened_2 rfl (lv_at hl 0 rfl) ?_
  refine lv_iload_n hx hb dL_evened_3 rfl (lv_at hl 1 rfl) ?_
  refine lv_iload_n hx hb dL_evened_4 rfl (lv_at hl 2 rfl) ?_
  have hPc := hP.sub (ws' := [(h, .inr (13, [.ref pe, .ref ne, .ref pa, .ref ro, .int dy])), (pa, .inr (4, [.int mc, .ref el, .int 0]))]) [0, 1] rfl
  have hDc := hD.sub (ws' := [(h, .inr (13, [.ref pe, .ref ne, .ref pa, .ref ro, .int dy])), (pa, .inr (4, [.int mc, .ref el, .int 0]))]) [0, 1] (by decide) rfl
  have hFc := va_free (wc := [(h, .inr (13, [.ref pe, .ref ne, .ref pa, .ref ro, .int dy])), (pa, .inr (4, [.int mc, .ref el, .int 0]))]) hD hS hA [0, 1] rfl
  refine vx_calli (vx_runV (As := [.int p0, .int p1]) (rest := [.int 0, .ref oa]) ⟨hx, hb, hml, hown, hts⟩ (c_X8_evened l hst D cy ed s.heap.size h pe ne pa ro dy mc el p0 p1) (cwV 2 hts (zx_GV mm_1095 mm_1096 mm_1097 mm_71 mm_1098) rfl rfl rfl (by decide +kernel) ⟨(Nat.le_of_ble_eq_true rfl), (Nat.le_of_ble_eq_true rfl)⟩) ⟨zx_blind, va_recv hK hPc (ci := 13) (q0 := 0) rfl rfl, zx_give hPc hK hDc hS hFc hZ hN⟩ rfl rfl hl.1 rfl (lv_room (Nat.le_of_ble_eq_true rfl)) dL_evened_5 ⟨(Nat.le_of_ble_eq_true rfl), (Nat.le_of_ble_eq_true rfl)⟩) hS (fun q _ h => hFc q h) hFc (fun q _ h => hFc q h) (fun E9 ce9 q9 _ t H locs ht hvm _ hBX hz1 hk1 hS hce hcv hcl => ?_) (fun r9 u t H locs ht hvm hw hB hz1 hk1 hS => ?_)
  · have hBX : (fun E9 => E9 = "java/lang/IndexOutOfBoundsException") E9 := hBX
    obtain rfl := hBX
    refine vx_catch hown [] { startPc := 0, endPc := 10, handlerPc := 13, catchType := 21 } [({ startPc := 0, endPc := 10, handlerPc := 17, catchType := 64 } : ExceptionTableEntry)] (by rw [htb]; rfl) (fun z9 h9 => absurd h9 List.not_mem_nil) (by decide) (by decide) (hts (.classLink RL 21 "java/lang/IndexOutOfBoundsException") (zx_Gc mm_432)) (zx_cast_moved (Vm.Alike.refl _) (hN.2.2.1 _ _ (List.mem_of_getElem? (i := 475) (by decide +kernel)))) hce hcv hcl ?_
    obtain ⟨hP, hD⟩ := va_join (wr := [(oa, .inl (cy 3, 1, .inr (.inl og)))]) (w1 := []) hP hD [0, 1] [2] rfl rfl (by decide) (by decide) hk1 hFc zx_P0 zx_D0
    have hP : va_P D vwCl [(oa, .inl (cy 3, 1, .inr (.inl og)))] H := hP
    have hD : va_D A [(oa, .inl (cy 3, 1, .inr (.inl og)))] := hD
    refine W.widen (k := 1) (n := 6) (Nat.le_of_ble_eq_true rfl) (Nat.le_of_ble_eq_true rfl) ?_
    refine lv_astore (lv' := [(4, .ref q9), (0, .ref h), (1, .int p0), (2, .int p1), (3, .ref oa)]) hx hb dL_evened_13 hl (by decide) rfl (fun ls hl => ?_)
    refine lv_iconst (v := 1) hx hb dL_evened_15 (by decide) ?_
    have hP9 := hP.sub (ws' := []) [] rfl
    have hD9 := hD.sub (ws' := []) [] (by decide) rfl
    refine vx_ret ?_
    exact W.iret (v := 1) hx hb hr (fun t ht hW => ⟨⟨1, (), rfl, rfl, zx_fin hP9 hD9 hK ht hW⟩, hS.F ht⟩) hS.2.2 dL_evened_16
  · exact hw.elim
set_option maxHeartbeats 4000000 in
set_option maxRecDepth 100000 in
theorem c_L_meet (l : Launch) (hst : l.stackTraces = false) (D : va_G) (cy : Nat → ClassId) (ed sz : Nat) (h : Nat) (pe : Nat) (ne : Nat) (pa : Nat) (ro : Nat) (dy : Int32) (mc : Int32) (el : Nat) (oa : Nat) (og : Nat → Int64) (p0 : Int32) (p1 : Int32) (p2 : Int32) : vx_Met l yL_meet wzL_meet ({ frames := 9, cells := 1, slots := 6, locals := 148 }) (zx_Pc D cy ed sz [.ref h, .int p0, .int p1, .int p2, .ref oa] [(h, .inr (13, [.ref pe, .ref ne, .ref pa, .ref ro, .int dy])), (pa, .inr (4, [.int mc, .ref el, .int 0])), (oa, .inl (cy 3, 1, .inr (.inl og)))]) (va_Qi (fun (r9 : Int32) (u9 : Unit) => r9 = 1) (fun (u9 : Unit) (t9 : State) => zx_At D cy (va_A [(h, .inr (13, [.ref pe, .ref ne, .ref pa, .ref ro, .int dy])), (pa, .inr (4, [.int mc, .ref el, .int 0])), (oa, .inl (cy 3, 1, .inr (.inl og)))] sz) [] t9) (va_A [(h, .inr (13, [.ref pe, .ref ne, .ref pa, .ref ro, .int dy])), (pa, .inr (4, [.int mc, .ref el, .int 0])), (oa, .inl (cy 3, 1, .inr (.inl og)))] sz)) (zx_X (fun _ => False) (va_A [(h, .inr (13, [.ref pe, .ref ne, .ref pa, .ref ro, .int dy])), (pa, .inr (4, [.int mc, .ref el, .int 0])), (oa, .inl (cy 3, 1, .inr (.inl og)))] sz)) 1 6 (va_A [(h, .inr (13, [.ref pe, .ref ne, .ref pa, .ref ro, .int dy])), (pa, .inr (4, [.int mc, .ref el, .int 0])), (oa, .inl (cy 3, 1, .inr (.inl og)))] sz) := by
  refine vx_ofWH (cc := cL_meet) (maxL := 6) (ret := (some .int)) (hh := [(0, 12, 15, 21), (0, 12, 19, 45), (0, 12, 23, 64)]) (by decide) rfl ?_
  intro p e s m args below meth c s₁ B hml hv
  have htb := vx_table (x := objectInit) B (atoms_spec (ws := wzL_meet) B.pre _ List.mem_cons_self)
  obtain ⟨rfl, hsz, hP, hK, hD0, hZ, hN⟩ := hv
  have hx := B.exec
  have hb := B.bytes
  have hr := B.returns
  have hts := atoms_spec (ws := wzL_meet) B.pre
  have hown : s.vm.findClass RL = some m.cls := findClass_of_methodNamed B.named
  have hlocks := B.notSynchronized
  subst hsz
  have hD := hD0.self (sz := s.heap.size)
  generalize hAe : va_A [(h, .inr (13, [.ref pe, .ref ne, .ref pa, .ref ro, .int dy])), (pa, .inr (4, [.int mc, .ref el, .int 0])), (oa, .inl (cy 3, 1, .inr (.inl og)))] s.heap.size = A at hD hZ ⊢
  have hA : ∀ q : Nat, s.heap.size ≤ q → A q := fun q h => by rw [← hAe]; exact Or.inr h
  have hS : va_S A s.heap s.heap [] := va_S.rf
  have hP : va_P D vwCl [(h, .inr (13, [.ref pe, .ref ne, .ref pa, .ref ro, .int dy])), (pa, .inr (4, [.int mc, .ref el, .int 0])), (oa, .inl (cy 3, 1, .inr (.inl og)))] s.heap := hP
  have hl := lv_entry ([.ref h, .int p0, .int p1, .int p2, .ref oa]) (n := 6) (Nat.le_of_ble_eq_true rfl)
  rw [lg_entry_eq]
  generalize (lg_sl ([.ref h, .int p0, .int p1, .int p2, .ref oa]) ++ List.replicate (6 - (lg_sl ([.ref h, .int p0, .int p1, .int p2, .ref oa])).length) Slot.unset).toArray = ls at hl ⊢
  have hl : lv_has ls 6 [(0, .ref h), (1, .int p0), (2, .int p1), (3, .int p2), (4, .ref oa)] := hl
  refine lv_aload hx hb dL_meet_0 (lv_at hl 4 rfl) ?_
  refine lv_iconst (v := 0) hx hb dL_meet_2 (by decide) ?_
  refine lv_aload_n hx hb dL_meet_3 rfl (lv_at hl 0 rfl) ?_
  refine lv_iload_n hx hb dL_meet_4 rfl (lv_at hl 1 rfl) ?_
  refine lv_iload_n hx hb dL_meet_5 rfl (lv_at hl 2 rfl) ?_
  refine lv_iload_n hx hb dL_meet_6 rfl (lv_at hl 3 rfl) ?_
  have hPc := hP.sub (ws' := [(h, .inr (13, [.ref pe, .ref ne, .ref pa, .ref ro, .int dy])), (pa, .inr (4, [.int mc, .ref el, .int 0]))]) [0, 1] rfl
  have hDc := hD.sub (ws' := [(h, .inr (13, [.ref pe, .ref ne, .ref pa, .ref ro, .int dy])), (pa, .inr (4, [.int mc, .ref el, .int 0]))]) [0, 1] (by decide) rfl
  have hFc := va_free (wc := [(h, .inr (13, [.ref pe, .ref ne, .ref pa, .ref ro, .int dy])), (pa, .inr (4, [.int mc, .ref el, .int 0]))]) hD hS hA [0, 1] rfl
  refine vx_calli (vx_runV (As := [.int p0, .int p1, .int p2]) (rest := [.int 0, .ref oa]) ⟨hx, hb, hml, hown, hts⟩ (c_X8_meet l hst D cy ed s.heap.size h pe ne pa ro dy mc el p0 p1 p2) (cwV 3 hts (zx_GV mm_1110 mm_1111 mm_1112 mm_71 mm_1113) rfl rfl rfl (by decide +kernel) ⟨(Nat.le_of_ble_eq_true rfl), (Nat.le_of_ble_eq_true rfl)⟩) ⟨zx_blind, va_recv hK hPc (ci := 13) (q0 := 0) rfl rfl, zx_give hPc hK hDc hS hFc hZ hN⟩ rfl rfl hl.1 rfl (lv_room (Nat.le_of_ble_eq_true rfl)) dL_meet_7 ⟨(Nat.le_of_ble_eq_true rfl), (Nat.le_of_ble_eq_true rfl)⟩) hS (fun q _ h => hFc q h) hFc (fun q _ h => hFc q h) (fun E9 ce9 q9 _ t H locs ht hvm _ hBX hz1 hk1 hS hce hcv hcl => ?_) (fun r9 u t H locs ht hvm hw hB hz1 hk1 hS => ?_)
  · have hBX : (fun E9 => E9 = "java/lang/IndexOutOfBoundsException") E9 := hBX
    obtain rfl := hBX
    refine vx_catch hown [] { startPc := 0, endPc := 12, handlerPc := 15, catchType := 21 } [({ startPc := 0, endPc := 12, handlerPc := 19, catchType := 45 } : ExceptionTableEntry), ({ startPc := 0, endPc := 12, handlerPc := 23, catchType := 64 } : ExceptionTableEntry)] (by rw [htb]; rfl) (fun z9 h9 => absurd h9 List.not_mem_nil) (by decide) (by decide) (hts (.classLink RL 21 "java/lang/IndexOutOfBoundsException") (zx_Gc mm_432)) (zx_cast_moved (Vm.Alike.refl _) (hN.2.2.1 _ _ (List.mem_of_getElem? (i := 475) (by decide +kernel)))) hce hcv hcl ?_
    obtain ⟨hP, hD⟩ := va_join (wr := [(oa, .inl (cy 3, 1, .inr (.inl og)))]) (w1 := []) hP hD [0, 1] [2] rfl rfl (by decide) (by decide) hk1 hFc zx_P0 zx_D0
    have hP : va_P D vwCl [(oa, .inl (cy 3, 1, .inr (.inl og)))] H := hP
    have hD : va_D A [(oa, .inl (cy 3, 1, .inr (.inl og)))] := hD
    refine W.widen (k := 1) (n := 6) (Nat.le_of_ble_eq_true rfl) (Nat.le_of_ble_eq_true rfl) ?_
    refine lv_astore (lv' := [(5, .ref q9), (0, .ref h), (1, .int p0), (2, .int p1), (3, .int p2), (4, .ref oa)]) hx hb dL_meet_15 hl (by decide) rfl (fun ls hl => ?_)
    refine lv_iconst (v := 1) hx hb dL_meet_17 (by decide) ?_
    have hP9 := hP.sub (ws' := []) [] rfl
    have hD9 := hD.sub (ws' := []) [] (by decide) rfl
    refine vx_ret ?_
    exact W.iret (v := 1) hx hb hr (fun t ht hW => ⟨⟨1, (), rfl, rfl, zx_fin hP9 hD9 hK ht hW⟩, hS.F ht⟩) hS.2.2 dL_meet_18
  · exact hw.elim
set_option maxHeartbeats 4000000 in
set_option maxRecDepth 100000 in
theorem c_L_openPoints (l : Launch) (hst : l.stackTraces = false) (D : va_G) (cy : Nat → ClassId) (ed sz : Nat) (h : Nat) (pe : Nat) (ne : Nat) (pa : Nat) (ro : Nat) (dy : Int32) (mc : Int32) (el : Nat) (oa : Nat) (og : Nat → Int64) (p0 : Int32) : vx_Met l yL_openPoints wzL_openPoints ({ frames := 9, cells := 1, slots := 6, locals := 145 }) (zx_Pc D cy ed sz [.ref h, .int p0, .ref oa] [(h, .inr (13, [.ref pe, .ref ne, .ref pa, .ref ro, .int dy])), (pa, .inr (4, [.int mc, .ref el, .int 0])), (oa, .inl (cy 3, 1, .inr (.inl og)))]) (va_Qi (fun (r9 : Int32) (u9 : Unit) => r9 = 1) (fun (u9 : Unit) (t9 : State) => zx_At D cy (va_A [(h, .inr (13, [.ref pe, .ref ne, .ref pa, .ref ro, .int dy])), (pa, .inr (4, [.int mc, .ref el, .int 0])), (oa, .inl (cy 3, 1, .inr (.inl og)))] sz) [] t9) (va_A [(h, .inr (13, [.ref pe, .ref ne, .ref pa, .ref ro, .int dy])), (pa, .inr (4, [.int mc, .ref el, .int 0])), (oa, .inl (cy 3, 1, .inr (.inl og)))] sz)) (zx_X (fun _ => False) (va_A [(h, .inr (13, [.ref pe, .ref ne, .ref pa, .ref ro, .int dy])), (pa, .inr (4, [.int mc, .ref el, .int 0])), (oa, .inl (cy 3, 1, .inr (.inl og)))] sz)) 1 6 (va_A [(h, .inr (13, [.ref pe, .ref ne, .ref pa, .ref ro, .int dy])), (pa, .inr (4, [.int mc, .ref el, .int 0])), (oa, .inl (cy 3, 1, .inr (.inl og)))] sz) := by
  refine vx_ofWH (cc := cL_openPoints) (maxL := 4) (ret := (some .int)) (hh := [(0, 9, 12, 21)]) (by decide) rfl ?_
  intro p e s m args below meth c s₁ B hml hv
  have htb := vx_table (x := objectInit) B (atoms_spec (ws := wzL_openPoints) B.pre _ List.mem_cons_self)
  obtain ⟨rfl, hsz, hP, hK, hD0, hZ, hN⟩ := hv
  have hx := B.exec
  have hb := B.bytes
  have hr := B.returns
  have hts := atoms_spec (ws := wzL_openPoints) B.pre
  have hown : s.vm.findClass RL = some m.cls := findClass_of_methodNamed B.named
  have hlocks := B.notSynchronized
  subst hsz
  have hD := hD0.self (sz := s.heap.size)
  generalize hAe : va_A [(h, .inr (13, [.ref pe, .ref ne, .ref pa, .ref ro, .int dy])), (pa, .inr (4, [.int mc, .ref el, .int 0])), (oa, .inl (cy 3, 1, .inr (.inl og)))] s.heap.size = A at hD hZ ⊢
  have hA : ∀ q : Nat, s.heap.size ≤ q → A q := fun q h => by rw [← hAe]; exact Or.inr h
  have hS : va_S A s.heap s.heap [] := va_S.rf
  have hP : va_P D vwCl [(h, .inr (13, [.ref pe, .ref ne, .ref pa, .ref ro, .int dy])), (pa, .inr (4, [.int mc, .ref el, .int 0])), (oa, .inl (cy 3, 1, .inr (.inl og)))] s.heap := hP
  have hl := lv_entry ([.ref h, .int p0, .ref oa]) (n := 4) (Nat.le_of_ble_eq_true rfl)
  rw [lg_entry_eq]
  generalize (lg_sl ([.ref h, .int p0, .ref oa]) ++ List.replicate (4 - (lg_sl ([.ref h, .int p0, .ref oa])).length) Slot.unset).toArray = ls at hl ⊢
  have hl : lv_has ls 4 [(0, .ref h), (1, .int p0), (2, .ref oa)] := hl
  refine lv_aload_n hx hb dL_openPoints_0 rfl (lv_at hl 2 rfl) ?_
  refine lv_iconst (v := 0) hx hb dL_openPoints_1 (by decide) ?_
  refine lv_aload_n hx hb dL_openPoints_2 rfl (lv_at hl 0 rfl) ?_
  refine lv_iload_n hx hb dL_openPoints_3 rfl (lv_at hl 1 rfl) ?_
  have hPc := hP.sub (ws' := [(h, .inr (13, [.ref pe, .ref ne, .ref pa, .ref ro, .int dy])), (pa, .inr (4, [.int mc, .ref el, .int 0]))]) [0, 1] rfl
  have hDc := hD.sub (ws' := [(h, .inr (13, [.ref pe, .ref ne, .ref pa, .ref ro, .int dy])), (pa, .inr (4, [.int mc, .ref el, .int 0]))]) [0, 1] (by decide) rfl
  have hFc := va_free (wc := [(h, .inr (13, [.ref pe, .ref ne, .ref pa, .ref ro, .int dy])), (pa, .inr (4, [.int mc, .ref el, .int 0]))]) hD hS hA [0, 1] rfl
  refine vx_calli (vx_runV (As := [.int p0]) (rest := [.int 0, .ref oa]) ⟨hx, hb, hml, hown, hts⟩ (c_X8_openPoints l hst D cy ed s.heap.size h pe ne pa ro dy mc el p0) (cwV 1 hts (zx_GV mm_1127 mm_1128 mm_1129 mm_71 mm_1130) rfl rfl rfl (by decide +kernel) ⟨(Nat.le_of_ble_eq_true rfl), (Nat.le_of_ble_eq_true rfl)⟩) ⟨zx_blind, va_recv hK hPc (ci := 13) (q0 := 0) rfl rfl, zx_give hPc hK hDc hS hFc hZ hN⟩ rfl rfl hl.1 rfl (lv_room (Nat.le_of_ble_eq_true rfl)) dL_openPoints_4 ⟨(Nat.le_of_ble_eq_true rfl), (Nat.le_of_ble_eq_true rfl)⟩) hS (fun q _ h => hFc q h) hFc (fun q _ h => hFc q h) (fun E9 ce9 q9 _ t H locs ht hvm _ hBX hz1 hk1 hS hce hcv hcl => ?_) (fun r9 u t H locs ht hvm hw hB hz1 hk1 hS => ?_)
  · have hBX : (fun E9 => E9 = "java/lang/IndexOutOfBoundsException") E9 := hBX
    obtain rfl := hBX
    refine vx_catch hown [] { startPc := 0, endPc := 9, handlerPc := 12, catchType := 21 } [] (by rw [htb]; rfl) (fun z9 h9 => absurd h9 List.not_mem_nil) (by decide) (by decide) (hts (.classLink RL 21 "java/lang/IndexOutOfBoundsException") (zx_Gc mm_432)) (zx_cast_moved (Vm.Alike.refl _) (hN.2.2.1 _ _ (List.mem_of_getElem? (i := 475) (by decide +kernel)))) hce hcv hcl ?_
    obtain ⟨hP, hD⟩ := va_join (wr := [(oa, .inl (cy 3, 1, .inr (.inl og)))]) (w1 := []) hP hD [0, 1] [2] rfl rfl (by decide) (by decide) hk1 hFc zx_P0 zx_D0
    have hP : va_P D vwCl [(oa, .inl (cy 3, 1, .inr (.inl og)))] H := hP
    have hD : va_D A [(oa, .inl (cy 3, 1, .inr (.inl og)))] := hD
    refine W.widen (k := 1) (n := 6) (Nat.le_of_ble_eq_true rfl) (Nat.le_of_ble_eq_true rfl) ?_
    refine lv_astore_n (lv' := [(3, .ref q9), (0, .ref h), (1, .int p0), (2, .ref oa)]) hx hb dL_openPoints_12 rfl hl (by decide) rfl (fun ls hl => ?_)
    refine lv_iconst (v := 1) hx hb dL_openPoints_13 (by decide) ?_
    have hP9 := hP.sub (ws' := []) [] rfl
    have hD9 := hD.sub (ws' := []) [] (by decide) rfl
    refine vx_ret ?_
    exact W.iret (v := 1) hx hb hr (fun t ht hW => ⟨⟨1, (), rfl, rfl, zx_fin hP9 hD9 hK ht hW⟩, hS.F ht⟩) hS.2.2 dL_openPoints_14
  · exact hw.elim
set_option maxHeartbeats 4000000 in
set_option maxRecDepth 100000 in
theorem c_L_decide (l : Launch) (hst : l.stackTraces = false) (D : va_G) (cy : Nat → ClassId) (ed sz : Nat) (h : Nat) (pe : Nat) (ne : Nat) (pa : Nat) (ro : Nat) (dy : Int32) (mc : Int32) (el : Nat) (oa : Nat) (og : Nat → Int64) (p0 : Int32) : vx_Met l yL_decide wzL_decide ({ frames := 9, cells := 1, slots := 6, locals := 146 }) (zx_Pc D cy ed sz [.ref h, .int p0, .ref oa] [(h, .inr (13, [.ref pe, .ref ne, .ref pa, .ref ro, .int dy])), (pa, .inr (4, [.int mc, .ref el, .int 0])), (oa, .inl (cy 3, 1, .inr (.inl og)))]) (va_Qi (fun (r9 : Int32) (u9 : Unit) => r9 = 1) (fun (u9 : Unit) (t9 : State) => zx_At D cy (va_A [(h, .inr (13, [.ref pe, .ref ne, .ref pa, .ref ro, .int dy])), (pa, .inr (4, [.int mc, .ref el, .int 0])), (oa, .inl (cy 3, 1, .inr (.inl og)))] sz) [] t9) (va_A [(h, .inr (13, [.ref pe, .ref ne, .ref pa, .ref ro, .int dy])), (pa, .inr (4, [.int mc, .ref el, .int 0])), (oa, .inl (cy 3, 1, .inr (.inl og)))] sz)) (zx_X (fun _ => False) (va_A [(h, .inr (13, [.ref pe, .ref ne, .ref pa, .ref ro, .int dy])), (pa, .inr (4, [.int mc, .ref el, .int 0])), (oa, .inl (cy 3, 1, .inr (.inl og)))] sz)) 1 6 (va_A [(h, .inr (13, [.ref pe, .ref ne, .ref pa, .ref ro, .int dy])), (pa, .inr (4, [.int mc, .ref el, .int 0])), (oa, .inl (cy 3, 1, .inr (.inl og)))] sz) := by
  refine vx_ofWH (cc := cL_decide) (maxL := 4) (ret := (some .int)) (hh := [(0, 9, 12, 21), (0, 9, 15, 45)]) (by decide) rfl ?_
  intro p e s m args below meth c s₁ B hml hv
  have htb := vx_table (x := objectInit) B (atoms_spec (ws := wzL_decide) B.pre _ List.mem_cons_self)
  obtain ⟨rfl, hsz, hP, hK, hD0, hZ, hN⟩ := hv
  have hx := B.exec
  have hb := B.bytes
  have hr := B.returns
  have hts := atoms_spec (ws := wzL_decide) B.pre
  have hown : s.vm.findClass RL = some m.cls := findClass_of_methodNamed B.named
  have hlocks := B.notSynchronized
  subst hsz
  have hD := hD0.self (sz := s.heap.size)
  generalize hAe : va_A [(h, .inr (13, [.ref pe, .ref ne, .ref pa, .ref ro, .int dy])), (pa, .inr (4, [.int mc, .ref el, .int 0])), (oa, .inl (cy 3, 1, .inr (.inl og)))] s.heap.size = A at hD hZ ⊢
  have hA : ∀ q : Nat, s.heap.size ≤ q → A q := fun q h => by rw [← hAe]; exact Or.inr h
  have hS : va_S A s.heap s.heap [] := va_S.rf
  have hP : va_P D vwCl [(h, .inr (13, [.ref pe, .ref ne, .ref pa, .ref ro, .int dy])), (pa, .inr (4, [.int mc, .ref el, .int 0])), (oa, .inl (cy 3, 1, .inr (.inl og)))] s.heap := hP
  have hl := lv_entry ([.ref h, .int p0, .ref oa]) (n := 4) (Nat.le_of_ble_eq_true rfl)
  rw [lg_entry_eq]
  generalize (lg_sl ([.ref h, .int p0, .ref oa]) ++ List.replicate (4 - (lg_sl ([.ref h, .int p0, .ref oa])).length) Slot.unset).toArray = ls at hl ⊢
  have hl : lv_has ls 4 [(0, .ref h), (1, .int p0), (2, .ref oa)] := hl
  refine lv_aload_n hx hb dL_decide_0 rfl (lv_at hl 2 rfl) ?_
  refine lv_iconst (v := 0) hx hb dL_decide_1 (by decide) ?_
  refine lv_aload_n hx hb dL_decide_2 rfl (lv_at hl 0 rfl) ?_
  refine lv_iload_n hx hb dL_decide_3 rfl (lv_at hl 1 rfl) ?_
  have hPc := hP.sub (ws' := [(h, .inr (13, [.ref pe, .ref ne, .ref pa, .ref ro, .int dy])), (pa, .inr (4, [.int mc, .ref el, .int 0]))]) [0, 1] rfl
  have hDc := hD.sub (ws' := [(h, .inr (13, [.ref pe, .ref ne, .ref pa, .ref ro, .int dy])), (pa, .inr (4, [.int mc, .ref el, .int 0]))]) [0, 1] (by decide) rfl
  have hFc := va_free (wc := [(h, .inr (13, [.ref pe, .ref ne, .ref pa, .ref ro, .int dy])), (pa, .inr (4, [.int mc, .ref el, .int 0]))]) hD hS hA [0, 1] rfl
  refine vx_calli (vx_runV (As := [.int p0]) (rest := [.int 0, .ref oa]) ⟨hx, hb, hml, hown, hts⟩ (c_X8_decide l hst D cy ed s.heap.size h pe ne pa ro dy mc el p0) (cwV 1 hts (zx_GV mm_1134 mm_1135 mm_1136 mm_71 mm_1137) rfl rfl rfl (by decide +kernel) ⟨(Nat.le_of_ble_eq_true rfl), (Nat.le_of_ble_eq_true rfl)⟩) ⟨zx_blind, va_recv hK hPc (ci := 13) (q0 := 0) rfl rfl, zx_give hPc hK hDc hS hFc hZ hN⟩ rfl rfl hl.1 rfl (lv_room (Nat.le_of_ble_eq_true rfl)) dL_decide_4 ⟨(Nat.le_of_ble_eq_true rfl), (Nat.le_of_ble_eq_true rfl)⟩) hS (fun q _ h => hFc q h) hFc (fun q _ h => hFc q h) (fun E9 ce9 q9 _ t H locs ht hvm _ hBX hz1 hk1 hS hce hcv hcl => ?_) (fun r9 u t H locs ht hvm hw hB hz1 hk1 hS => ?_)
  · have hBX : (fun E9 => E9 = "java/lang/IndexOutOfBoundsException") E9 := hBX
    obtain rfl := hBX
    refine vx_catch hown [] { startPc := 0, endPc := 9, handlerPc := 12, catchType := 21 } [({ startPc := 0, endPc := 9, handlerPc := 15, catchType := 45 } : ExceptionTableEntry)] (by rw [htb]; rfl) (fun z9 h9 => absurd h9 List.not_mem_nil) (by decide) (by decide) (hts (.classLink RL 21 "java/lang/IndexOutOfBoundsException") (zx_Gc mm_432)) (zx_cast_moved (Vm.Alike.refl _) (hN.2.2.1 _ _ (List.mem_of_getElem? (i := 475) (by decide +kernel)))) hce hcv hcl ?_
    obtain ⟨hP, hD⟩ := va_join (wr := [(oa, .inl (cy 3, 1, .inr (.inl og)))]) (w1 := []) hP hD [0, 1] [2] rfl rfl (by decide) (by decide) hk1 hFc zx_P0 zx_D0
    have hP : va_P D vwCl [(oa, .inl (cy 3, 1, .inr (.inl og)))] H := hP
    have hD : va_D A [(oa, .inl (cy 3, 1, .inr (.inl og)))] := hD
    refine W.widen (k := 1) (n := 6) (Nat.le_of_ble_eq_true rfl) (Nat.le_of_ble_eq_true rfl) ?_
    refine lv_astore_n (lv' := [(3, .ref q9), (0, .ref h), (1, .int p0), (2, .ref oa)]) hx hb dL_decide_12 rfl hl (by decide) rfl (fun ls hl => ?_)
    refine lv_iconst (v := 1) hx hb dL_decide_13 (by decide) ?_
    have hP9 := hP.sub (ws' := []) [] rfl
    have hD9 := hD.sub (ws' := []) [] (by decide) rfl
    refine vx_ret ?_
    exact W.iret (v := 1) hx hb hr (fun t ht hW => ⟨⟨1, (), rfl, rfl, zx_fin hP9 hD9 hK ht hW⟩, hS.F ht⟩) hS.2.2 dL_decide_14
  · exact hw.elim
set_option maxHeartbeats 4000000 in
set_option maxRecDepth 100000 in
theorem c_L_appeal (l : Launch) (hst : l.stackTraces = false) (D : va_G) (cy : Nat → ClassId) (ed sz : Nat) (h : Nat) (pe : Nat) (ne : Nat) (pa : Nat) (ro : Nat) (dy : Int32) (mc : Int32) (el : Nat) (oa : Nat) (og : Nat → Int64) (p0 : Int32) : vx_Met l yL_appeal wzL_appeal ({ frames := 9, cells := 1, slots := 6, locals := 146 }) (zx_Pc D cy ed sz [.ref h, .int p0, .ref oa] [(h, .inr (13, [.ref pe, .ref ne, .ref pa, .ref ro, .int dy])), (pa, .inr (4, [.int mc, .ref el, .int 0])), (oa, .inl (cy 3, 1, .inr (.inl og)))]) (va_Qi (fun (r9 : Int32) (u9 : Unit) => r9 = 1) (fun (u9 : Unit) (t9 : State) => zx_At D cy (va_A [(h, .inr (13, [.ref pe, .ref ne, .ref pa, .ref ro, .int dy])), (pa, .inr (4, [.int mc, .ref el, .int 0])), (oa, .inl (cy 3, 1, .inr (.inl og)))] sz) [] t9) (va_A [(h, .inr (13, [.ref pe, .ref ne, .ref pa, .ref ro, .int dy])), (pa, .inr (4, [.int mc, .ref el, .int 0])), (oa, .inl (cy 3, 1, .inr (.inl og)))] sz)) (zx_X (fun _ => False) (va_A [(h, .inr (13, [.ref pe, .ref ne, .ref pa, .ref ro, .int dy])), (pa, .inr (4, [.int mc, .ref el, .int 0])), (oa, .inl (cy 3, 1, .inr (.inl og)))] sz)) 1 6 (va_A [(h, .inr (13, [.ref pe, .ref ne, .ref pa, .ref ro, .int dy])), (pa, .inr (4, [.int mc, .ref el, .int 0])), (oa, .inl (cy 3, 1, .inr (.inl og)))] sz) := by
  refine vx_ofWH (cc := cL_appeal) (maxL := 4) (ret := (some .int)) (hh := [(0, 9, 12, 21), (0, 9, 15, 45)]) (by decide) rfl ?_
  intro p e s m args below meth c s₁ B hml hv
  have htb := vx_table (x := objectInit) B (atoms_spec (ws := wzL_appeal) B.pre _ List.mem_cons_self)
  obtain ⟨rfl, hsz, hP, hK, hD0, hZ, hN⟩ := hv
  have hx := B.exec
  have hb := B.bytes
  have hr := B.returns
  have hts := atoms_spec (ws := wzL_appeal) B.pre
  have hown : s.vm.findClass RL = some m.cls := findClass_of_methodNamed B.named
  have hlocks := B.notSynchronized
  subst hsz
  have hD := hD0.self (sz := s.heap.size)
  generalize hAe : va_A [(h, .inr (13, [.ref pe, .ref ne, .ref pa, .ref ro, .int dy])), (pa, .inr (4, [.int mc, .ref el, .int 0])), (oa, .inl (cy 3, 1, .inr (.inl og)))] s.heap.size = A at hD hZ ⊢
  have hA : ∀ q : Nat, s.heap.size ≤ q → A q := fun q h => by rw [← hAe]; exact Or.inr h
  have hS : va_S A s.heap s.heap [] := va_S.rf
  have hP : va_P D vwCl [(h, .inr (13, [.ref pe, .ref ne, .ref pa, .ref ro, .int dy])), (pa, .inr (4, [.int mc, .ref el, .int 0])), (oa, .inl (cy 3, 1, .inr (.inl og)))] s.heap := hP
  have hl := lv_entry ([.ref h, .int p0, .ref oa]) (n := 4) (Nat.le_of_ble_eq_true rfl)
  rw [lg_entry_eq]
  generalize (lg_sl ([.ref h, .int p0, .ref oa]) ++ List.replicate (4 - (lg_sl ([.ref h, .int p0, .ref oa])).length) Slot.unset).toArray = ls at hl ⊢
  have hl : lv_has ls 4 [(0, .ref h), (1, .int p0), (2, .ref oa)] := hl
  refine lv_aload_n hx hb dL_appeal_0 rfl (lv_at hl 2 rfl) ?_
  refine lv_iconst (v := 0) hx hb dL_appeal_1 (by decide) ?_
  refine lv_aload_n hx hb dL_appeal_2 rfl (lv_at hl 0 rfl) ?_
  refine lv_iload_n hx hb dL_appeal_3 rfl (lv_at hl 1 rfl) ?_
  have hPc := hP.sub (ws' := [(h, .inr (13, [.ref pe, .ref ne, .ref pa, .ref ro, .int dy])), (pa, .inr (4, [.int mc, .ref el, .int 0]))]) [0, 1] rfl
  have hDc := hD.sub (ws' := [(h, .inr (13, [.ref pe, .ref ne, .ref pa, .ref ro, .int dy])), (pa, .inr (4, [.int mc, .ref el, .int 0]))]) [0, 1] (by decide) rfl
  have hFc := va_free (wc := [(h, .inr (13, [.ref pe, .ref ne, .ref pa, .ref ro, .int dy])), (pa, .inr (4, [.int mc, .ref el, .int 0]))]) hD hS hA [0, 1] rfl
  refine vx_calli (vx_runV (As := [.int p0]) (rest := [.int 0, .ref oa]) ⟨hx, hb, hml, hown, hts⟩ (c_X8_appeal l hst D cy ed s.heap.size h pe ne pa ro dy mc el p0) (cwV 1 hts (zx_GV mm_1187 mm_1188 mm_1189 mm_71 mm_1190) rfl rfl rfl (by decide +kernel) ⟨(Nat.le_of_ble_eq_true rfl), (Nat.le_of_ble_eq_true rfl)⟩) ⟨zx_blind, va_recv hK hPc (ci := 13) (q0 := 0) rfl rfl, zx_give hPc hK hDc hS hFc hZ hN⟩ rfl rfl hl.1 rfl (lv_room (Nat.le_of_ble_eq_true rfl)) dL_appeal_4 ⟨(Nat.le_of_ble_eq_true rfl), (Nat.le_of_ble_eq_true rfl)⟩) hS (fun q _ h => hFc q h) hFc (fun q _ h => hFc q h) (fun E9 ce9 q9 _ t H locs ht hvm _ hBX hz1 hk1 hS hce hcv hcl => ?_) (fun r9 u t H locs ht hvm hw hB hz1 hk1 hS => ?_)
  · have hBX : (fun E9 => E9 = "java/lang/IndexOutOfBoundsException") E9 := hBX
    obtain rfl := hBX
    refine vx_catch hown [] { startPc := 0, endPc := 9, handlerPc := 12, catchType := 21 } [({ startPc := 0, endPc := 9, handlerPc := 15, catchType := 45 } : ExceptionTableEntry)] (by rw [htb]; rfl) (fun z9 h9 => absurd h9 List.not_mem_nil) (by decide) (by decide) (hts (.classLink RL 21 "java/lang/IndexOutOfBoundsException") (zx_Gc mm_432)) (zx_cast_moved (Vm.Alike.refl _) (hN.2.2.1 _ _ (List.mem_of_getElem? (i := 475) (by decide +kernel)))) hce hcv hcl ?_
    obtain ⟨hP, hD⟩ := va_join (wr := [(oa, .inl (cy 3, 1, .inr (.inl og)))]) (w1 := []) hP hD [0, 1] [2] rfl rfl (by decide) (by decide) hk1 hFc zx_P0 zx_D0
    have hP : va_P D vwCl [(oa, .inl (cy 3, 1, .inr (.inl og)))] H := hP
    have hD : va_D A [(oa, .inl (cy 3, 1, .inr (.inl og)))] := hD
    refine W.widen (k := 1) (n := 6) (Nat.le_of_ble_eq_true rfl) (Nat.le_of_ble_eq_true rfl) ?_
    refine lv_astore_n (lv' := [(3, .ref q9), (0, .ref h), (1, .int p0), (2, .ref oa)]) hx hb dL_appeal_12 rfl hl (by decide) rfl (fun ls hl => ?_)
    refine lv_iconst (v := 1) hx hb dL_appeal_13 (by decide) ?_
    have hP9 := hP.sub (ws' := []) [] rfl
    have hD9 := hD.sub (ws' := []) [] (by decide) rfl
    refine vx_ret ?_
    exact W.iret (v := 1) hx hb hr (fun t ht hW => ⟨⟨1, (), rfl, rfl, zx_fin hP9 hD9 hK ht hW⟩, hS.F ht⟩) hS.2.2 dL_appeal_14
  · exact hw.elim
set_option maxHeartbeats 4000000 in
set_option maxRecDepth 100000 in
theorem c_L_transfer (l : Launch) (hst : l.stackTraces = false) (D : va_G) (cy : Nat → ClassId) (ed sz : Nat) (h : Nat) (pe : Nat) (ne : Nat) (pa : Nat) (ro : Nat) (dy : Int32) (mc : Int32) (el : Nat) (oa : Nat) (og : Nat → Int64) (p0 : Int32) (p1 : Int32) : vx_Met l yL_transfer wzL_transfer ({ frames := 9, cells := 1, slots := 6, locals := 146 }) (zx_Pc D cy ed sz [.ref h, .int p0, .int p1, .ref oa] [(h, .inr (13, [.ref pe, .ref ne, .ref pa, .ref ro, .int dy])), (pa, .inr (4, [.int mc, .ref el, .int 0])), (oa, .inl (cy 3, 1, .inr (.inl og)))]) (va_Qi (fun (r9 : Int32) (u9 : Unit) => r9 = 1) (fun (u9 : Unit) (t9 : State) => zx_At D cy (va_A [(h, .inr (13, [.ref pe, .ref ne, .ref pa, .ref ro, .int dy])), (pa, .inr (4, [.int mc, .ref el, .int 0])), (oa, .inl (cy 3, 1, .inr (.inl og)))] sz) [] t9) (va_A [(h, .inr (13, [.ref pe, .ref ne, .ref pa, .ref ro, .int dy])), (pa, .inr (4, [.int mc, .ref el, .int 0])), (oa, .inl (cy 3, 1, .inr (.inl og)))] sz)) (zx_X (fun _ => False) (va_A [(h, .inr (13, [.ref pe, .ref ne, .ref pa, .ref ro, .int dy])), (pa, .inr (4, [.int mc, .ref el, .int 0])), (oa, .inl (cy 3, 1, .inr (.inl og)))] sz)) 1 6 (va_A [(h, .inr (13, [.ref pe, .ref ne, .ref pa, .ref ro, .int dy])), (pa, .inr (4, [.int mc, .ref el, .int 0])), (oa, .inl (cy 3, 1, .inr (.inl og)))] sz) := by
  refine vx_ofWH (cc := cL_transfer) (maxL := 5) (ret := (some .int)) (hh := [(0, 10, 13, 21), (0, 10, 17, 13), (0, 10, 21, 45)]) (by decide) rfl ?_
  intro p e s m args below meth c s₁ B hml hv
  have htb := vx_table (x := objectInit) B (atoms_spec (ws := wzL_transfer) B.pre _ List.mem_cons_self)
  obtain ⟨rfl, hsz, hP, hK, hD0, hZ, hN⟩ := hv
  have hx := B.exec
  have hb := B.bytes
  have hr := B.returns
  have hts := atoms_spec (ws := wzL_transfer) B.pre
  have hown : s.vm.findClass RL = some m.cls := findClass_of_methodNamed B.named
  have hlocks := B.notSynchronized
  subst hsz
  have hD := hD0.self (sz := s.heap.size)
  generalize hAe : va_A [(h, .inr (13, [.ref pe, .ref ne, .ref pa, .ref ro, .int dy])), (pa, .inr (4, [.int mc, .ref el, .int 0])), (oa, .inl (cy 3, 1, .inr (.inl og)))] s.heap.size = A at hD hZ ⊢
  have hA : ∀ q : Nat, s.heap.size ≤ q → A q := fun q h => by rw [← hAe]; exact Or.inr h
  have hS : va_S A s.heap s.heap [] := va_S.rf
  have hP : va_P D vwCl [(h, .inr (13, [.ref pe, .ref ne, .ref pa, .ref ro, .int dy])), (pa, .inr (4, [.int mc, .ref el, .int 0])), (oa, .inl (cy 3, 1, .inr (.inl og)))] s.heap := hP
  have hl := lv_entry ([.ref h, .int p0, .int p1, .ref oa]) (n := 5) (Nat.le_of_ble_eq_true rfl)
  rw [lg_entry_eq]
  generalize (lg_sl ([.ref h, .int p0, .int p1, .ref oa]) ++ List.replicate (5 - (lg_sl ([.ref h, .int p0, .int p1, .ref oa])).length) Slot.unset).toArray = ls at hl ⊢
  have hl : lv_has ls 5 [(0, .ref h), (1, .int p0), (2, .int p1), (3, .ref oa)] := hl
  refine lv_aload_n hx hb dL_transfer_0 rfl (lv_at hl 3 rfl) ?_
  refine lv_iconst (v := 0) hx hb dL_transfer_1 (by decide) ?_
  refine lv_aload_n hx hb dL_transfer_2 rfl (lv_at hl 0 rfl) ?_
  refine lv_iload_n hx hb dL_transfer_3 rfl (lv_at hl 1 rfl) ?_
  refine lv_iload_n hx hb dL_transfer_4 rfl (lv_at hl 2 rfl) ?_
  have hPc := hP.sub (ws' := [(h, .inr (13, [.ref pe, .ref ne, .ref pa, .ref ro, .int dy])), (pa, .inr (4, [.int mc, .ref el, .int 0]))]) [0, 1] rfl
  have hDc := hD.sub (ws' := [(h, .inr (13, [.ref pe, .ref ne, .ref pa, .ref ro, .int dy])), (pa, .inr (4, [.int mc, .ref el, .int 0]))]) [0, 1] (by decide) rfl
  have hFc := va_free (wc := [(h, .inr (13, [.ref pe, .ref ne, .ref pa, .ref ro, .int dy])), (pa, .inr (4, [.int mc, .ref el, .int 0]))]) hD hS hA [0, 1] rfl
  refine vx_calli (vx_runV (As := [.int p0, .int p1]) (rest := [.int 0, .ref oa]) ⟨hx, hb, hml, hown, hts⟩ (c_X8_transfer l hst D cy ed s.heap.size h pe ne pa ro dy mc el p0 p1) (cwV 2 hts (zx_GV mm_1198 mm_1199 mm_1200 mm_71 mm_1201) rfl rfl rfl (by decide +kernel) ⟨(Nat.le_of_ble_eq_true rfl), (Nat.le_of_ble_eq_true rfl)⟩) ⟨zx_blind, va_recv hK hPc (ci := 13) (q0 := 0) rfl rfl, zx_give hPc hK hDc hS hFc hZ hN⟩ rfl rfl hl.1 rfl (lv_room (Nat.le_of_ble_eq_true rfl)) dL_transfer_5 ⟨(Nat.le_of_ble_eq_true rfl), (Nat.le_of_ble_eq_true rfl)⟩) hS (fun q _ h => hFc q h) hFc (fun q _ h => hFc q h) (fun E9 ce9 q9 _ t H locs ht hvm _ hBX hz1 hk1 hS hce hcv hcl => ?_) (fun r9 u t H locs ht hvm hw hB hz1 hk1 hS => ?_)
  · have hBX : (fun E9 => E9 = "java/lang/IndexOutOfBoundsException") E9 := hBX
    obtain rfl := hBX
    refine vx_catch hown [] { startPc := 0, endPc := 10, handlerPc := 13, catchType := 21 } [({ startPc := 0, endPc := 10, handlerPc := 17, catchType := 13 } : ExceptionTableEntry), ({ startPc := 0, endPc := 10, handlerPc := 21, catchType := 45 } : ExceptionTableEntry)] (by rw [htb]; rfl) (fun z9 h9 => absurd h9 List.not_mem_nil) (by decide) (by decide) (hts (.classLink RL 21 "java/lang/IndexOutOfBoundsException") (zx_Gc mm_432)) (zx_cast_moved (Vm.Alike.refl _) (hN.2.2.1 _ _ (List.mem_of_getElem? (i := 475) (by decide +kernel)))) hce hcv hcl ?_
    obtain ⟨hP, hD⟩ := va_join (wr := [(oa, .inl (cy 3, 1, .inr (.inl og)))]) (w1 := []) hP hD [0, 1] [2] rfl rfl (by decide) (by decide) hk1 hFc zx_P0 zx_D0
    have hP : va_P D vwCl [(oa, .inl (cy 3, 1, .inr (.inl og)))] H := hP
    have hD : va_D A [(oa, .inl (cy 3, 1, .inr (.inl og)))] := hD
    refine W.widen (k := 1) (n := 6) (Nat.le_of_ble_eq_true rfl) (Nat.le_of_ble_eq_true rfl) ?_
    refine lv_astore (lv' := [(4, .ref q9), (0, .ref h), (1, .int p0), (2, .int p1), (3, .ref oa)]) hx hb dL_transfer_13 hl (by decide) rfl (fun ls hl => ?_)
    refine lv_iconst (v := 1) hx hb dL_transfer_15 (by decide) ?_
    have hP9 := hP.sub (ws' := []) [] rfl
    have hD9 := hD.sub (ws' := []) [] (by decide) rfl
    refine vx_ret ?_
    exact W.iret (v := 1) hx hb hr (fun t ht hW => ⟨⟨1, (), rfl, rfl, zx_fin hP9 hD9 hK ht hW⟩, hS.F ht⟩) hS.2.2 dL_transfer_16
  · exact hw.elim
set_option maxHeartbeats 4000000 in
set_option maxRecDepth 100000 in
theorem c_L_showAhead (l : Launch) (hst : l.stackTraces = false) (D : va_G) (cy : Nat → ClassId) (ed sz : Nat) (h : Nat) (pe : Nat) (ne : Nat) (pa : Nat) (ro : Nat) (dy : Int32) (mc : Int32) (el : Nat) (oa : Nat) (og : Nat → Int64) (p0 : Int32) : vx_Met l yL_showAhead wzL_showAhead ({ frames := 9, cells := 1, slots := 6, locals := 145 }) (zx_Pc D cy ed sz [.ref h, .int p0, .ref oa] [(h, .inr (13, [.ref pe, .ref ne, .ref pa, .ref ro, .int dy])), (pa, .inr (4, [.int mc, .ref el, .int 0])), (oa, .inl (cy 3, 1, .inr (.inl og)))]) (va_Qi (fun (r9 : Int32) (u9 : Unit) => r9 = 1) (fun (u9 : Unit) (t9 : State) => zx_At D cy (va_A [(h, .inr (13, [.ref pe, .ref ne, .ref pa, .ref ro, .int dy])), (pa, .inr (4, [.int mc, .ref el, .int 0])), (oa, .inl (cy 3, 1, .inr (.inl og)))] sz) [] t9) (va_A [(h, .inr (13, [.ref pe, .ref ne, .ref pa, .ref ro, .int dy])), (pa, .inr (4, [.int mc, .ref el, .int 0])), (oa, .inl (cy 3, 1, .inr (.inl og)))] sz)) (zx_X (fun _ => False) (va_A [(h, .inr (13, [.ref pe, .ref ne, .ref pa, .ref ro, .int dy])), (pa, .inr (4, [.int mc, .ref el, .int 0])), (oa, .inl (cy 3, 1, .inr (.inl og)))] sz)) 1 6 (va_A [(h, .inr (13, [.ref pe, .ref ne, .ref pa, .ref ro, .int dy])), (pa, .inr (4, [.int mc, .ref el, .int 0])), (oa, .inl (cy 3, 1, .inr (.inl og)))] sz) := by
  refine vx_ofWH (cc := cL_showAhead) (maxL := 4) (ret := (some .int)) (hh := [(0, 9, 12, 21), (0, 9, 15, 45)]) (by decide) rfl ?_
  intro p e s m args below meth c s₁ B hml hv
  have htb := vx_table (x := objectInit) B (atoms_spec (ws := wzL_showAhead) B.pre _ List.mem_cons_self)
  obtain ⟨rfl, hsz, hP, hK, hD0, hZ, hN⟩ := hv
  have hx := B.exec
  have hb := B.bytes
  have hr := B.returns
  have hts := atoms_spec (ws := wzL_showAhead) B.pre
  have hown : s.vm.findClass RL = some m.cls := findClass_of_methodNamed B.named
  have hlocks := B.notSynchronized
  subst hsz
  have hD := hD0.self (sz := s.heap.size)
  generalize hAe : va_A [(h, .inr (13, [.ref pe, .ref ne, .ref pa, .ref ro, .int dy])), (pa, .inr (4, [.int mc, .ref el, .int 0])), (oa, .inl (cy 3, 1, .inr (.inl og)))] s.heap.size = A at hD hZ ⊢
  have hA : ∀ q : Nat, s.heap.size ≤ q → A q := fun q h => by rw [← hAe]; exact Or.inr h
  have hS : va_S A s.heap s.heap [] := va_S.rf
  have hP : va_P D vwCl [(h, .inr (13, [.ref pe, .ref ne, .ref pa, .ref ro, .int dy])), (pa, .inr (4, [.int mc, .ref el, .int 0])), (oa, .inl (cy 3, 1, .inr (.inl og)))] s.heap := hP
  have hl := lv_entry ([.ref h, .int p0, .ref oa]) (n := 4) (Nat.le_of_ble_eq_true rfl)
  rw [lg_entry_eq]
  generalize (lg_sl ([.ref h, .int p0, .ref oa]) ++ List.replicate (4 - (lg_sl ([.ref h, .int p0, .ref oa])).length) Slot.unset).toArray = ls at hl ⊢
  have hl : lv_has ls 4 [(0, .ref h), (1, .int p0), (2, .ref oa)] := hl
  refine lv_aload_n hx hb dL_showAhead_0 rfl (lv_at hl 2 rfl) ?_
  refine lv_iconst (v := 0) hx hb dL_showAhead_1 (by decide) ?_
  refine lv_aload_n hx hb dL_showAhead_2 rfl (lv_at hl 0 rfl) ?_
  refine lv_iload_n hx hb dL_showAhead_3 rfl (lv_at hl 1 rfl) ?_
  have hPc := hP.sub (ws' := [(h, .inr (13, [.ref pe, .ref ne, .ref pa, .ref ro, .int dy])), (pa, .inr (4, [.int mc, .ref el, .int 0]))]) [0, 1] rfl
  have hDc := hD.sub (ws' := [(h, .inr (13, [.ref pe, .ref ne, .ref pa, .ref ro, .int dy])), (pa, .inr (4, [.int mc, .ref el, .int 0]))]) [0, 1] (by decide) rfl
  have hFc := va_free (wc := [(h, .inr (13, [.ref pe, .ref ne, .ref pa, .ref ro, .int dy])), (pa, .inr (4, [.int mc, .ref el, .int 0]))]) hD hS hA [0, 1] rfl
  refine vx_calli (vx_runV (As := [.int p0]) (rest := [.int 0, .ref oa]) ⟨hx, hb, hml, hown, hts⟩ (c_X8_showAhead l hst D cy ed s.heap.size h pe ne pa ro dy mc el p0) (cwV 1 hts (zx_GV mm_1205 mm_1206 mm_1207 mm_71 mm_1208) rfl rfl rfl (by decide +kernel) ⟨(Nat.le_of_ble_eq_true rfl), (Nat.le_of_ble_eq_true rfl)⟩) ⟨zx_blind, va_recv hK hPc (ci := 13) (q0 := 0) rfl rfl, zx_give hPc hK hDc hS hFc hZ hN⟩ rfl rfl hl.1 rfl (lv_room (Nat.le_of_ble_eq_true rfl)) dL_showAhead_4 ⟨(Nat.le_of_ble_eq_true rfl), (Nat.le_of_ble_eq_true rfl)⟩) hS (fun q _ h => hFc q h) hFc (fun q _ h => hFc q h) (fun E9 ce9 q9 _ t H locs ht hvm _ hBX hz1 hk1 hS hce hcv hcl => ?_) (fun r9 u t H locs ht hvm hw hB hz1 hk1 hS => ?_)
  · have hBX : (fun E9 => E9 = "java/lang/IndexOutOfBoundsException") E9 := hBX
    obtain rfl := hBX
    refine vx_catch hown [] { startPc := 0, endPc := 9, handlerPc := 12, catchType := 21 } [({ startPc := 0, endPc := 9, handlerPc := 15, catchType := 45 } : ExceptionTableEntry)] (by rw [htb]; rfl) (fun z9 h9 => absurd h9 List.not_mem_nil) (by decide) (by decide) (hts (.classLink RL 21 "java/lang/IndexOutOfBoundsException") (zx_Gc mm_432)) (zx_cast_moved (Vm.Alike.refl _) (hN.2.2.1 _ _ (List.mem_of_getElem? (i := 475) (by decide +kernel)))) hce hcv hcl ?_
    obtain ⟨hP, hD⟩ := va_join (wr := [(oa, .inl (cy 3, 1, .inr (.inl og)))]) (w1 := []) hP hD [0, 1] [2] rfl rfl (by decide) (by decide) hk1 hFc zx_P0 zx_D0
    have hP : va_P D vwCl [(oa, .inl (cy 3, 1, .inr (.inl og)))] H := hP
    have hD : va_D A [(oa, .inl (cy 3, 1, .inr (.inl og)))] := hD
    refine W.widen (k := 1) (n := 6) (Nat.le_of_ble_eq_true rfl) (Nat.le_of_ble_eq_true rfl) ?_
    refine lv_astore_n (lv' := [(3, .ref q9), (0, .ref h), (1, .int p0), (2, .ref oa)]) hx hb dL_showAhead_12 rfl hl (by decide) rfl (fun ls hl => ?_)
    refine lv_iconst (v := 1) hx hb dL_showAhead_13 (by decide) ?_
    have hP9 := hP.sub (ws' := []) [] rfl
    have hD9 := hD.sub (ws' := []) [] (by decide) rfl
    refine vx_ret ?_
    exact W.iret (v := 1) hx hb hr (fun t ht hW => ⟨⟨1, (), rfl, rfl, zx_fin hP9 hD9 hK ht hW⟩, hS.F ht⟩) hS.2.2 dL_showAhead_14
  · exact hw.elim
set_option maxHeartbeats 4000000 in
set_option maxRecDepth 100000 in
theorem c_L_priority (l : Launch) (hst : l.stackTraces = false) (D : va_G) (cy : Nat → ClassId) (ed sz : Nat) (h : Nat) (pe : Nat) (ne : Nat) (pa : Nat) (ro : Nat) (dy : Int32) (mc : Int32) (el : Nat) (oa : Nat) (og : Nat → Int64) (p0 : Int32) : vx_Met l yL_priority wzL_priority ({ frames := 9, cells := 1, slots := 6, locals := 145 }) (zx_Pc D cy ed sz [.ref h, .int p0, .ref oa] [(h, .inr (13, [.ref pe, .ref ne, .ref pa, .ref ro, .int dy])), (pa, .inr (4, [.int mc, .ref el, .int 0])), (oa, .inl (cy 3, 1, .inr (.inl og)))]) (va_Qi (fun (r9 : Int32) (u9 : Unit) => r9 = 1) (fun (u9 : Unit) (t9 : State) => zx_At D cy (va_A [(h, .inr (13, [.ref pe, .ref ne, .ref pa, .ref ro, .int dy])), (pa, .inr (4, [.int mc, .ref el, .int 0])), (oa, .inl (cy 3, 1, .inr (.inl og)))] sz) [] t9) (va_A [(h, .inr (13, [.ref pe, .ref ne, .ref pa, .ref ro, .int dy])), (pa, .inr (4, [.int mc, .ref el, .int 0])), (oa, .inl (cy 3, 1, .inr (.inl og)))] sz)) (zx_X (fun _ => False) (va_A [(h, .inr (13, [.ref pe, .ref ne, .ref pa, .ref ro, .int dy])), (pa, .inr (4, [.int mc, .ref el, .int 0])), (oa, .inl (cy 3, 1, .inr (.inl og)))] sz)) 1 6 (va_A [(h, .inr (13, [.ref pe, .ref ne, .ref pa, .ref ro, .int dy])), (pa, .inr (4, [.int mc, .ref el, .int 0])), (oa, .inl (cy 3, 1, .inr (.inl og)))] sz) := by
  refine vx_ofWH (cc := cL_priority) (maxL := 4) (ret := (some .int)) (hh := [(0, 9, 12, 21), (0, 9, 15, 64)]) (by decide) rfl ?_
  intro p e s m args below meth c s₁ B hml hv
  have htb := vx_table (x := objectInit) B (atoms_spec (ws := wzL_priority) B.pre _ List.mem_cons_self)
  obtain ⟨rfl, hsz, hP, hK, hD0, hZ, hN⟩ := hv
  have hx := B.exec
  have hb := B.bytes
  have hr := B.returns
  have hts := atoms_spec (ws := wzL_priority) B.pre
  have hown : s.vm.findClass RL = some m.cls := findClass_of_methodNamed B.named
  have hlocks := B.notSynchronized
  subst hsz
  have hD := hD0.self (sz := s.heap.size)
  generalize hAe : va_A [(h, .inr (13, [.ref pe, .ref ne, .ref pa, .ref ro, .int dy])), (pa, .inr (4, [.int mc, .ref el, .int 0])), (oa, .inl (cy 3, 1, .inr (.inl og)))] s.heap.size = A at hD hZ ⊢
  have hA : ∀ q : Nat, s.heap.size ≤ q → A q := fun q h => by rw [← hAe]; exact Or.inr h
  have hS : va_S A s.heap s.heap [] := va_S.rf
  have hP : va_P D vwCl [(h, .inr (13, [.ref pe, .ref ne, .ref pa, .ref ro, .int dy])), (pa, .inr (4, [.int mc, .ref el, .int 0])), (oa, .inl (cy 3, 1, .inr (.inl og)))] s.heap := hP
  have hl := lv_entry ([.ref h, .int p0, .ref oa]) (n := 4) (Nat.le_of_ble_eq_true rfl)
  rw [lg_entry_eq]
  generalize (lg_sl ([.ref h, .int p0, .ref oa]) ++ List.replicate (4 - (lg_sl ([.ref h, .int p0, .ref oa])).length) Slot.unset).toArray = ls at hl ⊢
  have hl : lv_has ls 4 [(0, .ref h), (1, .int p0), (2, .ref oa)] := hl
  refine lv_aload_n hx hb dL_priority_0 rfl (lv_at hl 2 rfl) ?_
  refine lv_iconst (v := 0) hx hb dL_priority_1 (by decide) ?_
  refine lv_aload_n hx hb dL_priority_2 rfl (lv_at hl 0 rfl) ?_
  refine lv_iload_n hx hb dL_priority_3 rfl (lv_at hl 1 rfl) ?_
  have hPc := hP.sub (ws' := [(h, .inr (13, [.ref pe, .ref ne, .ref pa, .ref ro, .int dy])), (pa, .inr (4, [.int mc, .ref el, .int 0]))]) [0, 1] rfl
  have hDc := hD.sub (ws' := [(h, .inr (13, [.ref pe, .ref ne, .ref pa, .ref ro, .int dy])), (pa, .inr (4, [.int mc, .ref el, .int 0]))]) [0, 1] (by decide) rfl
  have hFc := va_free (wc := [(h, .inr (13, [.ref pe, .ref ne, .ref pa, .ref ro, .int dy])), (pa, .inr (4, [.int mc, .ref el, .int 0]))]) hD hS hA [0, 1] rfl
  refine vx_calli (vx_runV (As := [.int p0]) (rest := [.int 0, .ref oa]) ⟨hx, hb, hml, hown, hts⟩ (c_X8_priority l hst D cy ed s.heap.size h pe ne pa ro dy mc el p0) (cwV 1 hts (zx_GV mm_1212 mm_1213 mm_1214 mm_71 mm_1215) rfl rfl rfl (by decide +kernel) ⟨(Nat.le_of_ble_eq_true rfl), (Nat.le_of_ble_eq_true rfl)⟩) ⟨zx_blind, va_recv hK hPc (ci := 13) (q0 := 0) rfl rfl, zx_give hPc hK hDc hS hFc hZ hN⟩ rfl rfl hl.1 rfl (lv_room (Nat.le_of_ble_eq_true rfl)) dL_priority_4 ⟨(Nat.le_of_ble_eq_true rfl), (Nat.le_of_ble_eq_true rfl)⟩) hS (fun q _ h => hFc q h) hFc (fun q _ h => hFc q h) (fun E9 ce9 q9 _ t H locs ht hvm _ hBX hz1 hk1 hS hce hcv hcl => ?_) (fun r9 u t H locs ht hvm hw hB hz1 hk1 hS => ?_)
  · have hBX : (fun E9 => E9 = "java/lang/IndexOutOfBoundsException") E9 := hBX
    obtain rfl := hBX
    refine vx_catch hown [] { startPc := 0, endPc := 9, handlerPc := 12, catchType := 21 } [({ startPc := 0, endPc := 9, handlerPc := 15, catchType := 64 } : ExceptionTableEntry)] (by rw [htb]; rfl) (fun z9 h9 => absurd h9 List.not_mem_nil) (by decide) (by decide) (hts (.classLink RL 21 "java/lang/IndexOutOfBoundsException") (zx_Gc mm_432)) (zx_cast_moved (Vm.Alike.refl _) (hN.2.2.1 _ _ (List.mem_of_getElem? (i := 475) (by decide +kernel)))) hce hcv hcl ?_
    obtain ⟨hP, hD⟩ := va_join (wr := [(oa, .inl (cy 3, 1, .inr (.inl og)))]) (w1 := []) hP hD [0, 1] [2] rfl rfl (by decide) (by decide) hk1 hFc zx_P0 zx_D0
    have hP : va_P D vwCl [(oa, .inl (cy 3, 1, .inr (.inl og)))] H := hP
    have hD : va_D A [(oa, .inl (cy 3, 1, .inr (.inl og)))] := hD
    refine W.widen (k := 1) (n := 6) (Nat.le_of_ble_eq_true rfl) (Nat.le_of_ble_eq_true rfl) ?_
    refine lv_astore_n (lv' := [(3, .ref q9), (0, .ref h), (1, .int p0), (2, .ref oa)]) hx hb dL_priority_12 rfl hl (by decide) rfl (fun ls hl => ?_)
    refine lv_iconst (v := 1) hx hb dL_priority_13 (by decide) ?_
    have hP9 := hP.sub (ws' := []) [] rfl
    have hD9 := hD.sub (ws' := []) [] (by decide) rfl
    refine vx_ret ?_
    exact W.iret (v := 1) hx hb hr (fun t ht hW => ⟨⟨1, (), rfl, rfl, zx_fin hP9 hD9 hK ht hW⟩, hS.F ht⟩) hS.2.2 dL_priority_14
  · exact hw.elim
set_option maxHeartbeats 4000000 in
set_option maxRecDepth 100000 in
theorem c_L_embargo (l : Launch) (hst : l.stackTraces = false) (D : va_G) (cy : Nat → ClassId) (ed sz : Nat) (h : Nat) (pe : Nat) (ne : Nat) (pa : Nat) (ro : Nat) (dy : Int32) (mc : Int32) (el : Nat) (oa : Nat) (og : Nat → Int64) (p0 : Int32) (p1 : Int32) : vx_Met l yL_embargo wzL_embargo ({ frames := 9, cells := 1, slots := 6, locals := 147 }) (zx_Pc D cy ed sz [.ref h, .int p0, .int p1, .ref oa] [(h, .inr (13, [.ref pe, .ref ne, .ref pa, .ref ro, .int dy])), (pa, .inr (4, [.int mc, .ref el, .int 0])), (oa, .inl (cy 3, 1, .inr (.inl og)))]) (va_Qi (fun (r9 : Int32) (u9 : Unit) => r9 = 1) (fun (u9 : Unit) (t9 : State) => zx_At D cy (va_A [(h, .inr (13, [.ref pe, .ref ne, .ref pa, .ref ro, .int dy])), (pa, .inr (4, [.int mc, .ref el, .int 0])), (oa, .inl (cy 3, 1, .inr (.inl og)))] sz) [] t9) (va_A [(h, .inr (13, [.ref pe, .ref ne, .ref pa, .ref ro, .int dy])), (pa, .inr (4, [.int mc, .ref el, .int 0])), (oa, .inl (cy 3, 1, .inr (.inl og)))] sz)) (zx_X (fun _ => False) (va_A [(h, .inr (13, [.ref pe, .ref ne, .ref pa, .ref ro, .int dy])), (pa, .inr (4, [.int mc, .ref el, .int 0])), (oa, .inl (cy 3, 1, .inr (.inl og)))] sz)) 1 6 (va_A [(h, .inr (13, [.ref pe, .ref ne, .ref pa, .ref ro, .int dy])), (pa, .inr (4, [.int mc, .ref el, .int 0])), (oa, .inl (cy 3, 1, .inr (.inl og)))] sz) := by
  refine vx_ofWH (cc := cL_embargo) (maxL := 5) (ret := (some .int)) (hh := [(0, 10, 13, 21), (0, 10, 17, 13), (0, 10, 21, 45)]) (by decide) rfl ?_
  intro p e s m args below meth c s₁ B hml hv
  have htb := vx_table (x := objectInit) B (atoms_spec (ws := wzL_embargo) B.pre _ List.mem_cons_self)
  obtain ⟨rfl, hsz, hP, hK, hD0, hZ, hN⟩ := hv
  have hx := B.exec
  have hb := B.bytes
  have hr := B.returns
  have hts := atoms_spec (ws := wzL_embargo) B.pre
  have hown : s.vm.findClass RL = some m.cls := findClass_of_methodNamed B.named
  have hlocks := B.notSynchronized
  subst hsz
  have hD := hD0.self (sz := s.heap.size)
  generalize hAe : va_A [(h, .inr (13, [.ref pe, .ref ne, .ref pa, .ref ro, .int dy])), (pa, .inr (4, [.int mc, .ref el, .int 0])), (oa, .inl (cy 3, 1, .inr (.inl og)))] s.heap.size = A at hD hZ ⊢
  have hA : ∀ q : Nat, s.heap.size ≤ q → A q := fun q h => by rw [← hAe]; exact Or.inr h
  have hS : va_S A s.heap s.heap [] := va_S.rf
  have hP : va_P D vwCl [(h, .inr (13, [.ref pe, .ref ne, .ref pa, .ref ro, .int dy])), (pa, .inr (4, [.int mc, .ref el, .int 0])), (oa, .inl (cy 3, 1, .inr (.inl og)))] s.heap := hP
  have hl := lv_entry ([.ref h, .int p0, .int p1, .ref oa]) (n := 5) (Nat.le_of_ble_eq_true rfl)
  rw [lg_entry_eq]
  generalize (lg_sl ([.ref h, .int p0, .int p1, .ref oa]) ++ List.replicate (5 - (lg_sl ([.ref h, .int p0, .int p1, .ref oa])).length) Slot.unset).toArray = ls at hl ⊢
  have hl : lv_has ls 5 [(0, .ref h), (1, .int p0), (2, .int p1), (3, .ref oa)] := hl
  refine lv_aload_n hx hb dL_embargo_0 rfl (lv_at hl 3 rfl) ?_
  refine lv_iconst (v := 0) hx hb dL_embargo_1 (by decide) ?_
  refine lv_aload_n hx hb dL_embargo_2 rfl (lv_at hl 0 rfl) ?_
  refine lv_iload_n hx hb dL_embargo_3 rfl (lv_at hl 1 rfl) ?_
  refine lv_iload_n hx hb dL_embargo_4 rfl (lv_at hl 2 rfl) ?_
  have hPc := hP.sub (ws' := [(h, .inr (13, [.ref pe, .ref ne, .ref pa, .ref ro, .int dy])), (pa, .inr (4, [.int mc, .ref el, .int 0]))]) [0, 1] rfl
  have hDc := hD.sub (ws' := [(h, .inr (13, [.ref pe, .ref ne, .ref pa, .ref ro, .int dy])), (pa, .inr (4, [.int mc, .ref el, .int 0]))]) [0, 1] (by decide) rfl
  have hFc := va_free (wc := [(h, .inr (13, [.ref pe, .ref ne, .ref pa, .ref ro, .int dy])), (pa, .inr (4, [.int mc, .ref el, .int 0]))]) hD hS hA [0, 1] rfl
  refine vx_calli (vx_runV (As := [.int p0, .int p1]) (rest := [.int 0, .ref oa]) ⟨hx, hb, hml, hown, hts⟩ (c_X8_embargo l hst D cy ed s.heap.size h pe ne pa ro dy mc el p0 p1) (cwV 2 hts (zx_GV mm_1219 mm_1220 mm_1221 mm_71 mm_1222) rfl rfl rfl (by decide +kernel) ⟨(Nat.le_of_ble_eq_true rfl), (Nat.le_of_ble_eq_true rfl)⟩) ⟨zx_blind, va_recv hK hPc (ci := 13) (q0 := 0) rfl rfl, zx_give hPc hK hDc hS hFc hZ hN⟩ rfl rfl hl.1 rfl (lv_room (Nat.le_of_ble_eq_true rfl)) dL_embargo_5 ⟨(Nat.le_of_ble_eq_true rfl), (Nat.le_of_ble_eq_true rfl)⟩) hS (fun q _ h => hFc q h) hFc (fun q _ h => hFc q h) (fun E9 ce9 q9 _ t H locs ht hvm _ hBX hz1 hk1 hS hce hcv hcl => ?_) (fun r9 u t H locs ht hvm hw hB hz1 hk1 hS => ?_)
  · have hBX : (fun E9 => E9 = "java/lang/IndexOutOfBoundsException") E9 := hBX
    obtain rfl := hBX
    refine vx_catch hown [] { startPc := 0, endPc := 10, handlerPc := 13, catchType := 21 } [({ startPc := 0, endPc := 10, handlerPc := 17, catchType := 13 } : ExceptionTableEntry), ({ startPc := 0, endPc := 10, handlerPc := 21, catchType := 45 } : ExceptionTableEntry)] (by rw [htb]; rfl) (fun z9 h9 => absurd h9 List.not_mem_nil) (by decide) (by decide) (hts (.classLink RL 21 "java/lang/IndexOutOfBoundsException") (zx_Gc mm_432)) (zx_cast_moved (Vm.Alike.refl _) (hN.2.2.1 _ _ (List.mem_of_getElem? (i := 475) (by decide +kernel)))) hce hcv hcl ?_
    obtain ⟨hP, hD⟩ := va_join (wr := [(oa, .inl (cy 3, 1, .inr (.inl og)))]) (w1 := []) hP hD [0, 1] [2] rfl rfl (by decide) (by decide) hk1 hFc zx_P0 zx_D0
    have hP : va_P D vwCl [(oa, .inl (cy 3, 1, .inr (.inl og)))] H := hP
    have hD : va_D A [(oa, .inl (cy 3, 1, .inr (.inl og)))] := hD
    refine W.widen (k := 1) (n := 6) (Nat.le_of_ble_eq_true rfl) (Nat.le_of_ble_eq_true rfl) ?_
    refine lv_astore (lv' := [(4, .ref q9), (0, .ref h), (1, .int p0), (2, .int p1), (3, .ref oa)]) hx hb dL_embargo_13 hl (by decide) rfl (fun ls hl => ?_)
    refine lv_iconst (v := 1) hx hb dL_embargo_15 (by decide) ?_
    have hP9 := hP.sub (ws' := []) [] rfl
    have hD9 := hD.sub (ws' := []) [] (by decide) rfl
    refine vx_ret ?_
    exact W.iret (v := 1) hx hb hr (fun t ht hW => ⟨⟨1, (), rfl, rfl, zx_fin hP9 hD9 hK ht hW⟩, hS.F ht⟩) hS.2.2 dL_embargo_16
  · exact hw.elim
set_option maxHeartbeats 4000000 in
set_option maxRecDepth 100000 in
theorem c_L_publish (l : Launch) (hst : l.stackTraces = false) (D : va_G) (cy : Nat → ClassId) (ed sz : Nat) (h : Nat) (pe : Nat) (ne : Nat) (pa : Nat) (ro : Nat) (dy : Int32) (mc : Int32) (el : Nat) (oa : Nat) (og : Nat → Int64) (p0 : Int32) : vx_Met l yL_publish wzL_publish ({ frames := 9, cells := 1, slots := 6, locals := 145 }) (zx_Pc D cy ed sz [.ref h, .int p0, .ref oa] [(h, .inr (13, [.ref pe, .ref ne, .ref pa, .ref ro, .int dy])), (pa, .inr (4, [.int mc, .ref el, .int 0])), (oa, .inl (cy 3, 1, .inr (.inl og)))]) (va_Qi (fun (r9 : Int32) (u9 : Unit) => r9 = 1) (fun (u9 : Unit) (t9 : State) => zx_At D cy (va_A [(h, .inr (13, [.ref pe, .ref ne, .ref pa, .ref ro, .int dy])), (pa, .inr (4, [.int mc, .ref el, .int 0])), (oa, .inl (cy 3, 1, .inr (.inl og)))] sz) [] t9) (va_A [(h, .inr (13, [.ref pe, .ref ne, .ref pa, .ref ro, .int dy])), (pa, .inr (4, [.int mc, .ref el, .int 0])), (oa, .inl (cy 3, 1, .inr (.inl og)))] sz)) (zx_X (fun _ => False) (va_A [(h, .inr (13, [.ref pe, .ref ne, .ref pa, .ref ro, .int dy])), (pa, .inr (4, [.int mc, .ref el, .int 0])), (oa, .inl (cy 3, 1, .inr (.inl og)))] sz)) 1 6 (va_A [(h, .inr (13, [.ref pe, .ref ne, .ref pa, .ref ro, .int dy])), (pa, .inr (4, [.int mc, .ref el, .int 0])), (oa, .inl (cy 3, 1, .inr (.inl og)))] sz) := by
  refine vx_ofWH (cc := cL_publish) (maxL := 4) (ret := (some .int)) (hh := [(0, 9, 12, 21), (0, 9, 15, 45)]) (by decide) rfl ?_
  intro p e s m args below meth c s₁ B hml hv
  have htb := vx_table (x := objectInit) B (atoms_spec (ws := wzL_publish) B.pre _ List.mem_cons_self)
  obtain ⟨rfl, hsz, hP, hK, hD0, hZ, hN⟩ := hv
  have hx := B.exec
  have hb := B.bytes
  have hr := B.returns
  have hts := atoms_spec (ws := wzL_publish) B.pre
  have hown : s.vm.findClass RL = some m.cls := findClass_of_methodNamed B.named
  have hlocks := B.notSynchronized
  subst hsz
  have hD := hD0.self (sz := s.heap.size)
  generalize hAe : va_A [(h, .inr (13, [.ref pe, .ref ne, .ref pa, .ref ro, .int dy])), (pa, .inr (4, [.int mc, .ref el, .int 0])), (oa, .inl (cy 3, 1, .inr (.inl og)))] s.heap.size = A at hD hZ ⊢
  have hA : ∀ q : Nat, s.heap.size ≤ q → A q := fun q h => by rw [← hAe]; exact Or.inr h
  have hS : va_S A s.heap s.heap [] := va_S.rf
  have hP : va_P D vwCl [(h, .inr (13, [.ref pe, .ref ne, .ref pa, .ref ro, .int dy])), (pa, .inr (4, [.int mc, .ref el, .int 0])), (oa, .inl (cy 3, 1, .inr (.inl og)))] s.heap := hP
  have hl := lv_entry ([.ref h, .int p0, .ref oa]) (n := 4) (Nat.le_of_ble_eq_true rfl)
  rw [lg_entry_eq]
  generalize (lg_sl ([.ref h, .int p0, .ref oa]) ++ List.replicate (4 - (lg_sl ([.ref h, .int p0, .ref oa])).length) Slot.unset).toArray = ls at hl ⊢
  have hl : lv_has ls 4 [(0, .ref h), (1, .int p0), (2, .ref oa)] := hl
  refine lv_aload_n hx hb dL_publish_0 rfl (lv_at hl 2 rfl) ?_
  refine lv_iconst (v := 0) hx hb dL_publish_1 (by decide) ?_
  refine lv_aload_n hx hb dL_publish_2 rfl (lv_at hl 0 rfl) ?_
  refine lv_iload_n hx hb dL_publish_3 rfl (lv_at hl 1 rfl) ?_
  have hPc := hP.sub (ws' := [(h, .inr (13, [.ref pe, .ref ne, .ref pa, .ref ro, .int dy])), (pa, .inr (4, [.int mc, .ref el, .int 0]))]) [0, 1] rfl
  have hDc := hD.sub (ws' := [(h, .inr (13, [.ref pe, .ref ne, .ref pa, .ref ro, .int dy])), (pa, .inr (4, [.int mc, .ref el, .int 0]))]) [0, 1] (by decide) rfl
  have hFc := va_free (wc := [(h, .inr (13, [.ref pe, .ref ne, .ref pa, .ref ro, .int dy])), (pa, .inr (4, [.int mc, .ref el, .int 0]))]) hD hS hA [0, 1] rfl
  refine vx_calli (vx_runV (As := [.int p0]) (rest := [.int 0, .ref oa]) ⟨hx, hb, hml, hown, hts⟩ (c_X8_publish l hst D cy ed s.heap.size h pe ne pa ro dy mc el p0) (cwV 1 hts (zx_GV mm_1226 mm_1227 mm_1228 mm_71 mm_1229) rfl rfl rfl (by decide +kernel) ⟨(Nat.le_of_ble_eq_true rfl), (Nat.le_of_ble_eq_true rfl)⟩) ⟨zx_blind, va_recv hK hPc (ci := 13) (q0 := 0) rfl rfl, zx_give hPc hK hDc hS hFc hZ hN⟩ rfl rfl hl.1 rfl (lv_room (Nat.le_of_ble_eq_true rfl)) dL_publish_4 ⟨(Nat.le_of_ble_eq_true rfl), (Nat.le_of_ble_eq_true rfl)⟩) hS (fun q _ h => hFc q h) hFc (fun q _ h => hFc q h) (fun E9 ce9 q9 _ t H locs ht hvm _ hBX hz1 hk1 hS hce hcv hcl => ?_) (fun r9 u t H locs ht hvm hw hB hz1 hk1 hS => ?_)
  · have hBX : (fun E9 => E9 = "java/lang/IndexOutOfBoundsException") E9 := hBX
    obtain rfl := hBX
    refine vx_catch hown [] { startPc := 0, endPc := 9, handlerPc := 12, catchType := 21 } [({ startPc := 0, endPc := 9, handlerPc := 15, catchType := 45 } : ExceptionTableEntry)] (by rw [htb]; rfl) (fun z9 h9 => absurd h9 List.not_mem_nil) (by decide) (by decide) (hts (.classLink RL 21 "java/lang/IndexOutOfBoundsException") (zx_Gc mm_432)) (zx_cast_moved (Vm.Alike.refl _) (hN.2.2.1 _ _ (List.mem_of_getElem? (i := 475) (by decide +kernel)))) hce hcv hcl ?_
    obtain ⟨hP, hD⟩ := va_join (wr := [(oa, .inl (cy 3, 1, .inr (.inl og)))]) (w1 := []) hP hD [0, 1] [2] rfl rfl (by decide) (by decide) hk1 hFc zx_P0 zx_D0
    have hP : va_P D vwCl [(oa, .inl (cy 3, 1, .inr (.inl og)))] H := hP
    have hD : va_D A [(oa, .inl (cy 3, 1, .inr (.inl og)))] := hD
    refine W.widen (k := 1) (n := 6) (Nat.le_of_ble_eq_true rfl) (Nat.le_of_ble_eq_true rfl) ?_
    refine lv_astore_n (lv' := [(3, .ref q9), (0, .ref h), (1, .int p0), (2, .ref oa)]) hx hb dL_publish_12 rfl hl (by decide) rfl (fun ls hl => ?_)
    refine lv_iconst (v := 1) hx hb dL_publish_13 (by decide) ?_
    have hP9 := hP.sub (ws' := []) [] rfl
    have hD9 := hD.sub (ws' := []) [] (by decide) rfl
    refine vx_ret ?_
    exact W.iret (v := 1) hx hb hr (fun t ht hW => ⟨⟨1, (), rfl, rfl, zx_fin hP9 hD9 hK ht hW⟩, hS.F ht⟩) hS.2.2 dL_publish_14
  · exact hw.elim
set_option maxHeartbeats 4000000 in
set_option maxRecDepth 100000 in
theorem c_L_cite (l : Launch) (hst : l.stackTraces = false) (D : va_G) (cy : Nat → ClassId) (ed sz : Nat) (h : Nat) (pe : Nat) (ne : Nat) (pa : Nat) (ro : Nat) (dy : Int32) (mc : Int32) (el : Nat) (oa : Nat) (og : Nat → Int64) (p0 : Int32) (p1 : Int32) : vx_Met l yL_cite wzL_cite ({ frames := 9, cells := 1, slots := 6, locals := 146 }) (zx_Pc D cy ed sz [.ref h, .int p0, .int p1, .ref oa] [(h, .inr (13, [.ref pe, .ref ne, .ref pa, .ref ro, .int dy])), (pa, .inr (4, [.int mc, .ref el, .int 0])), (oa, .inl (cy 3, 1, .inr (.inl og)))]) (va_Qi (fun (r9 : Int32) (u9 : Unit) => r9 = 1) (fun (u9 : Unit) (t9 : State) => zx_At D cy (va_A [(h, .inr (13, [.ref pe, .ref ne, .ref pa, .ref ro, .int dy])), (pa, .inr (4, [.int mc, .ref el, .int 0])), (oa, .inl (cy 3, 1, .inr (.inl og)))] sz) [] t9) (va_A [(h, .inr (13, [.ref pe, .ref ne, .ref pa, .ref ro, .int dy])), (pa, .inr (4, [.int mc, .ref el, .int 0])), (oa, .inl (cy 3, 1, .inr (.inl og)))] sz)) (zx_X (fun _ => False) (va_A [(h, .inr (13, [.ref pe, .ref ne, .ref pa, .ref ro, .int dy])), (pa, .inr (4, [.int mc, .ref el, .int 0])), (oa, .inl (cy 3, 1, .inr (.inl og)))] sz)) 1 6 (va_A [(h, .inr (13, [.ref pe, .ref ne, .ref pa, .ref ro, .int dy])), (pa, .inr (4, [.int mc, .ref el, .int 0])), (oa, .inl (cy 3, 1, .inr (.inl og)))] sz) := by
  refine vx_ofWH (cc := cL_cite) (maxL := 5) (ret := (some .int)) (hh := [(0, 10, 13, 21), (0, 10, 17, 13), (0, 10, 21, 45)]) (by decide) rfl ?_
  intro p e s m args below meth c s₁ B hml hv
  have htb := vx_table (x := objectInit) B (atoms_spec (ws := wzL_cite) B.pre _ List.mem_cons_self)
  obtain ⟨rfl, hsz, hP, hK, hD0, hZ, hN⟩ := hv
  have hx := B.exec
  have hb := B.bytes
  have hr := B.returns
  have hts := atoms_spec (ws := wzL_cite) B.pre
  have hown : s.vm.findClass RL = some m.cls := findClass_of_methodNamed B.named
  have hlocks := B.notSynchronized
  subst hsz
  have hD := hD0.self (sz := s.heap.size)
  generalize hAe : va_A [(h, .inr (13, [.ref pe, .ref ne, .ref pa, .ref ro, .int dy])), (pa, .inr (4, [.int mc, .ref el, .int 0])), (oa, .inl (cy 3, 1, .inr (.inl og)))] s.heap.size = A at hD hZ ⊢
  have hA : ∀ q : Nat, s.heap.size ≤ q → A q := fun q h => by rw [← hAe]; exact Or.inr h
  have hS : va_S A s.heap s.heap [] := va_S.rf
  have hP : va_P D vwCl [(h, .inr (13, [.ref pe, .ref ne, .ref pa, .ref ro, .int dy])), (pa, .inr (4, [.int mc, .ref el, .int 0])), (oa, .inl (cy 3, 1, .inr (.inl og)))] s.heap := hP
  have hl := lv_entry ([.ref h, .int p0, .int p1, .ref oa]) (n := 5) (Nat.le_of_ble_eq_true rfl)
  rw [lg_entry_eq]
  generalize (lg_sl ([.ref h, .int p0, .int p1, .ref oa]) ++ List.replicate (5 - (lg_sl ([.ref h, .int p0, .int p1, .ref oa])).length) Slot.unset).toArray = ls at hl ⊢
  have hl : lv_has ls 5 [(0, .ref h), (1, .int p0), (2, .int p1), (3, .ref oa)] := hl
  refine lv_aload_n hx hb dL_cite_0 rfl (lv_at hl 3 rfl) ?_
  refine lv_iconst (v := 0) hx hb dL_cite_1 (by decide) ?_
  refine lv_aload_n hx hb dL_cite_2 rfl (lv_at hl 0 rfl) ?_
  refine lv_iload_n hx hb dL_cite_3 rfl (lv_at hl 1 rfl) ?_
  refine lv_iload_n hx hb dL_cite_4 rfl (lv_at hl 2 rfl) ?_
  have hPc := hP.sub (ws' := [(h, .inr (13, [.ref pe, .ref ne, .ref pa, .ref ro, .int dy])), (pa, .inr (4, [.int mc, .ref el, .int 0]))]) [0, 1] rfl
  have hDc := hD.sub (ws' := [(h, .inr (13, [.ref pe, .ref ne, .ref pa, .ref ro, .int dy])), (pa, .inr (4, [.int mc, .ref el, .int 0]))]) [0, 1] (by decide) rfl
  have hFc := va_free (wc := [(h, .inr (13, [.ref pe, .ref ne, .ref pa, .ref ro, .int dy])), (pa, .inr (4, [.int mc, .ref el, .int 0]))]) hD hS hA [0, 1] rfl
  refine vx_calli (vx_runV (As := [.int p0, .int p1]) (rest := [.int 0, .ref oa]) ⟨hx, hb, hml, hown, hts⟩ (c_X8_cite l hst D cy ed s.heap.size h pe ne pa ro dy mc el p0 p1) (cwV 2 hts (zx_GV mm_1240 mm_1241 mm_1242 mm_71 mm_1243) rfl rfl rfl (by decide +kernel) ⟨(Nat.le_of_ble_eq_true rfl), (Nat.le_of_ble_eq_true rfl)⟩) ⟨zx_blind, va_recv hK hPc (ci := 13) (q0 := 0) rfl rfl, zx_give hPc hK hDc hS hFc hZ hN⟩ rfl rfl hl.1 rfl (lv_room (Nat.le_of_ble_eq_true rfl)) dL_cite_5 ⟨(Nat.le_of_ble_eq_true rfl), (Nat.le_of_ble_eq_true rfl)⟩) hS (fun q _ h => hFc q h) hFc (fun q _ h => hFc q h) (fun E9 ce9 q9 _ t H locs ht hvm _ hBX hz1 hk1 hS hce hcv hcl => ?_) (fun r9 u t H locs ht hvm hw hB hz1 hk1 hS => ?_)
  · have hBX : (fun E9 => E9 = "java/lang/IndexOutOfBoundsException") E9 := hBX
    obtain rfl := hBX
    refine vx_catch hown [] { startPc := 0, endPc := 10, handlerPc := 13, catchType := 21 } [({ startPc := 0, endPc := 10, handlerPc := 17, catchType := 13 } : ExceptionTableEntry), ({ startPc := 0, endPc := 10, handlerPc := 21, catchType := 45 } : ExceptionTableEntry)] (by rw [htb]; rfl) (fun z9 h9 => absurd h9 List.not_mem_nil) (by decide) (by decide) (hts (.classLink RL 21 "java/lang/IndexOutOfBoundsException") (zx_Gc mm_432)) (zx_cast_moved (Vm.Alike.refl _) (hN.2.2.1 _ _ (List.mem_of_getElem? (i := 475) (by decide +kernel)))) hce hcv hcl ?_
    obtain ⟨hP, hD⟩ := va_join (wr := [(oa, .inl (cy 3, 1, .inr (.inl og)))]) (w1 := []) hP hD [0, 1] [2] rfl rfl (by decide) (by decide) hk1 hFc zx_P0 zx_D0
    have hP : va_P D vwCl [(oa, .inl (cy 3, 1, .inr (.inl og)))] H := hP
    have hD : va_D A [(oa, .inl (cy 3, 1, .inr (.inl og)))] := hD
    refine W.widen (k := 1) (n := 6) (Nat.le_of_ble_eq_true rfl) (Nat.le_of_ble_eq_true rfl) ?_
    refine lv_astore (lv' := [(4, .ref q9), (0, .ref h), (1, .int p0), (2, .int p1), (3, .ref oa)]) hx hb dL_cite_13 hl (by decide) rfl (fun ls hl => ?_)
    refine lv_iconst (v := 1) hx hb dL_cite_15 (by decide) ?_
    have hP9 := hP.sub (ws' := []) [] rfl
    have hD9 := hD.sub (ws' := []) [] (by decide) rfl
    refine vx_ret ?_
    exact W.iret (v := 1) hx hb hr (fun t ht hW => ⟨⟨1, (), rfl, rfl, zx_fin hP9 hD9 hK ht hW⟩, hS.F ht⟩) hS.2.2 dL_cite_16
  · exact hw.elim
set_option maxHeartbeats 4000000 in
set_option maxRecDepth 100000 in
theorem c_L_retract (l : Launch) (hst : l.stackTraces = false) (D : va_G) (cy : Nat → ClassId) (ed sz : Nat) (h : Nat) (pe : Nat) (ne : Nat) (pa : Nat) (ro : Nat) (dy : Int32) (mc : Int32) (el : Nat) (oa : Nat) (og : Nat → Int64) (p0 : Int32) : vx_Met l yL_retract wzL_retract ({ frames := 9, cells := 1, slots := 6, locals := 145 }) (zx_Pc D cy ed sz [.ref h, .int p0, .ref oa] [(h, .inr (13, [.ref pe, .ref ne, .ref pa, .ref ro, .int dy])), (pa, .inr (4, [.int mc, .ref el, .int 0])), (oa, .inl (cy 3, 1, .inr (.inl og)))]) (va_Qi (fun (r9 : Int32) (u9 : Unit) => r9 = 1) (fun (u9 : Unit) (t9 : State) => zx_At D cy (va_A [(h, .inr (13, [.ref pe, .ref ne, .ref pa, .ref ro, .int dy])), (pa, .inr (4, [.int mc, .ref el, .int 0])), (oa, .inl (cy 3, 1, .inr (.inl og)))] sz) [] t9) (va_A [(h, .inr (13, [.ref pe, .ref ne, .ref pa, .ref ro, .int dy])), (pa, .inr (4, [.int mc, .ref el, .int 0])), (oa, .inl (cy 3, 1, .inr (.inl og)))] sz)) (zx_X (fun _ => False) (va_A [(h, .inr (13, [.ref pe, .ref ne, .ref pa, .ref ro, .int dy])), (pa, .inr (4, [.int mc, .ref el, .int 0])), (oa, .inl (cy 3, 1, .inr (.inl og)))] sz)) 1 6 (va_A [(h, .inr (13, [.ref pe, .ref ne, .ref pa, .ref ro, .int dy])), (pa, .inr (4, [.int mc, .ref el, .int 0])), (oa, .inl (cy 3, 1, .inr (.inl og)))] sz) := by
  refine vx_ofWH (cc := cL_retract) (maxL := 4) (ret := (some .int)) (hh := [(0, 9, 12, 21), (0, 9, 15, 45)]) (by decide) rfl ?_
  intro p e s m args below meth c s₁ B hml hv
  have htb := vx_table (x := objectInit) B (atoms_spec (ws := wzL_retract) B.pre _ List.mem_cons_self)
  obtain ⟨rfl, hsz, hP, hK, hD0, hZ, hN⟩ := hv
  have hx := B.exec
  have hb := B.bytes
  have hr := B.returns
  have hts := atoms_spec (ws := wzL_retract) B.pre
  have hown : s.vm.findClass RL = some m.cls := findClass_of_methodNamed B.named
  have hlocks := B.notSynchronized
  subst hsz
  have hD := hD0.self (sz := s.heap.size)
  generalize hAe : va_A [(h, .inr (13, [.ref pe, .ref ne, .ref pa, .ref ro, .int dy])), (pa, .inr (4, [.int mc, .ref el, .int 0])), (oa, .inl (cy 3, 1, .inr (.inl og)))] s.heap.size = A at hD hZ ⊢
  have hA : ∀ q : Nat, s.heap.size ≤ q → A q := fun q h => by rw [← hAe]; exact Or.inr h
  have hS : va_S A s.heap s.heap [] := va_S.rf
  have hP : va_P D vwCl [(h, .inr (13, [.ref pe, .ref ne, .ref pa, .ref ro, .int dy])), (pa, .inr (4, [.int mc, .ref el, .int 0])), (oa, .inl (cy 3, 1, .inr (.inl og)))] s.heap := hP
  have hl := lv_entry ([.ref h, .int p0, .ref oa]) (n := 4) (Nat.le_of_ble_eq_true rfl)
  rw [lg_entry_eq]
  generalize (lg_sl ([.ref h, .int p0, .ref oa]) ++ List.replicate (4 - (lg_sl ([.ref h, .int p0, .ref oa])).length) Slot.unset).toArray = ls at hl ⊢
  have hl : lv_has ls 4 [(0, .ref h), (1, .int p0), (2, .ref oa)] := hl
  refine lv_aload_n hx hb dL_retract_0 rfl (lv_at hl 2 rfl) ?_
  refine lv_iconst (v := 0) hx hb dL_retract_1 (by decide) ?_
  refine lv_aload_n hx hb dL_retract_2 rfl (lv_at hl 0 rfl) ?_
  refine lv_iload_n hx hb dL_retract_3 rfl (lv_at hl 1 rfl) ?_
  have hPc := hP.sub (ws' := [(h, .inr (13, [.ref pe, .ref ne, .ref pa, .ref ro, .int dy])), (pa, .inr (4, [.int mc, .ref el, .int 0]))]) [0, 1] rfl
  have hDc := hD.sub (ws' := [(h, .inr (13, [.ref pe, .ref ne, .ref pa, .ref ro, .int dy])), (pa, .inr (4, [.int mc, .ref el, .int 0]))]) [0, 1] (by decide) rfl
  have hFc := va_free (wc := [(h, .inr (13, [.ref pe, .ref ne, .ref pa, .ref ro, .int dy])), (pa, .inr (4, [.int mc, .ref el, .int 0]))]) hD hS hA [0, 1] rfl
  refine vx_calli (vx_runV (As := [.int p0]) (rest := [.int 0, .ref oa]) ⟨hx, hb, hml, hown, hts⟩ (c_X8_retract l hst D cy ed s.heap.size h pe ne pa ro dy mc el p0) (cwV 1 hts (zx_GV mm_1247 mm_1248 mm_1249 mm_71 mm_1250) rfl rfl rfl (by decide +kernel) ⟨(Nat.le_of_ble_eq_true rfl), (Nat.le_of_ble_eq_true rfl)⟩) ⟨zx_blind, va_recv hK hPc (ci := 13) (q0 := 0) rfl rfl, zx_give hPc hK hDc hS hFc hZ hN⟩ rfl rfl hl.1 rfl (lv_room (Nat.le_of_ble_eq_true rfl)) dL_retract_4 ⟨(Nat.le_of_ble_eq_true rfl), (Nat.le_of_ble_eq_true rfl)⟩) hS (fun q _ h => hFc q h) hFc (fun q _ h => hFc q h) (fun E9 ce9 q9 _ t H locs ht hvm _ hBX hz1 hk1 hS hce hcv hcl => ?_) (fun r9 u t H locs ht hvm hw hB hz1 hk1 hS => ?_)
  · have hBX : (fun E9 => E9 = "java/lang/IndexOutOfBoundsException") E9 := hBX
    obtain rfl := hBX
    refine vx_catch hown [] { startPc := 0, endPc := 9, handlerPc := 12, catchType := 21 } [({ startPc := 0, endPc := 9, handlerPc := 15, catchType := 45 } : ExceptionTableEntry)] (by rw [htb]; rfl) (fun z9 h9 => absurd h9 List.not_mem_nil) (by decide) (by decide) (hts (.classLink RL 21 "java/lang/IndexOutOfBoundsException") (zx_Gc mm_432)) (zx_cast_moved (Vm.Alike.refl _) (hN.2.2.1 _ _ (List.mem_of_getElem? (i := 475) (by decide +kernel)))) hce hcv hcl ?_
    obtain ⟨hP, hD⟩ := va_join (wr := [(oa, .inl (cy 3, 1, .inr (.inl og)))]) (w1 := []) hP hD [0, 1] [2] rfl rfl (by decide) (by decide) hk1 hFc zx_P0 zx_D0
    have hP : va_P D vwCl [(oa, .inl (cy 3, 1, .inr (.inl og)))] H := hP
    have hD : va_D A [(oa, .inl (cy 3, 1, .inr (.inl og)))] := hD
    refine W.widen (k := 1) (n := 6) (Nat.le_of_ble_eq_true rfl) (Nat.le_of_ble_eq_true rfl) ?_
    refine lv_astore_n (lv' := [(3, .ref q9), (0, .ref h), (1, .int p0), (2, .ref oa)]) hx hb dL_retract_12 rfl hl (by decide) rfl (fun ls hl => ?_)
    refine lv_iconst (v := 1) hx hb dL_retract_13 (by decide) ?_
    have hP9 := hP.sub (ws' := []) [] rfl
    have hD9 := hD.sub (ws' := []) [] (by decide) rfl
    refine vx_ret ?_
    exact W.iret (v := 1) hx hb hr (fun t ht hW => ⟨⟨1, (), rfl, rfl, zx_fin hP9 hD9 hK ht hW⟩, hS.F ht⟩) hS.2.2 dL_retract_14
  · exact hw.elim
set_option maxHeartbeats 4000000 in
set_option maxRecDepth 100000 in
theorem c_L_hasConcern (l : Launch) (hst : l.stackTraces = false) (D : va_G) (cy : Nat → ClassId) (ed sz : Nat) (h : Nat) (pe : Nat) (ne : Nat) (pa : Nat) (ro : Nat) (dy : Int32) (mc : Int32) (el : Nat) (oa : Nat) (og : Nat → Int64) (p0 : Int32) : vx_Met l yL_hasConcern wzL_hasConcern ({ frames := 9, cells := 1, slots := 6, locals := 145 }) (zx_Pc D cy ed sz [.ref h, .int p0, .ref oa] [(h, .inr (13, [.ref pe, .ref ne, .ref pa, .ref ro, .int dy])), (pa, .inr (4, [.int mc, .ref el, .int 0])), (oa, .inl (cy 3, 1, .inr (.inl og)))]) (va_Qi (fun (r9 : Int32) (u9 : Unit) => r9 = 1) (fun (u9 : Unit) (t9 : State) => zx_At D cy (va_A [(h, .inr (13, [.ref pe, .ref ne, .ref pa, .ref ro, .int dy])), (pa, .inr (4, [.int mc, .ref el, .int 0])), (oa, .inl (cy 3, 1, .inr (.inl og)))] sz) [] t9) (va_A [(h, .inr (13, [.ref pe, .ref ne, .ref pa, .ref ro, .int dy])), (pa, .inr (4, [.int mc, .ref el, .int 0])), (oa, .inl (cy 3, 1, .inr (.inl og)))] sz)) (zx_X (fun _ => False) (va_A [(h, .inr (13, [.ref pe, .ref ne, .ref pa, .ref ro, .int dy])), (pa, .inr (4, [.int mc, .ref el, .int 0])), (oa, .inl (cy 3, 1, .inr (.inl og)))] sz)) 1 6 (va_A [(h, .inr (13, [.ref pe, .ref ne, .ref pa, .ref ro, .int dy])), (pa, .inr (4, [.int mc, .ref el, .int 0])), (oa, .inl (cy 3, 1, .inr (.inl og)))] sz) := by
  refine vx_ofWH (cc := cL_hasConcern) (maxL := 4) (ret := (some .int)) (hh := [(0, 16, 19, 21)]) (by decide) rfl ?_
  intro p e s m args below meth c s₁ B hml hv
  have htb := vx_table (x := objectInit) B (atoms_spec (ws := wzL_hasConcern) B.pre _ List.mem_cons_self)
  obtain ⟨rfl, hsz, hP, hK, hD0, hZ, hN⟩ := hv
  have hx := B.exec
  have hb := B.bytes
  have hr := B.returns
  have hts := atoms_spec (ws := wzL_hasConcern) B.pre
  have hown : s.vm.findClass RL = some m.cls := findClass_of_methodNamed B.named
  have hlocks := B.notSynchronized
  subst hsz
  have hD := hD0.self (sz := s.heap.size)
  generalize hAe : va_A [(h, .inr (13, [.ref pe, .ref ne, .ref pa, .ref ro, .int dy])), (pa, .inr (4, [.int mc, .ref el, .int 0])), (oa, .inl (cy 3, 1, .inr (.inl og)))] s.heap.size = A at hD hZ ⊢
  have hA : ∀ q : Nat, s.heap.size ≤ q → A q := fun q h => by rw [← hAe]; exact Or.inr h
  have hS : va_S A s.heap s.heap [] := va_S.rf
  have hP : va_P D vwCl [(h, .inr (13, [.ref pe, .ref ne, .ref pa, .ref ro, .int dy])), (pa, .inr (4, [.int mc, .ref el, .int 0])), (oa, .inl (cy 3, 1, .inr (.inl og)))] s.heap := hP
  have hl := lv_entry ([.ref h, .int p0, .ref oa]) (n := 4) (Nat.le_of_ble_eq_true rfl)
  rw [lg_entry_eq]
  generalize (lg_sl ([.ref h, .int p0, .ref oa]) ++ List.replicate (4 - (lg_sl ([.ref h, .int p0, .ref oa])).length) Slot.unset).toArray = ls at hl ⊢
  have hl : lv_has ls 4 [(0, .ref h), (1, .int p0), (2, .ref oa)] := hl
  refine lv_aload_n hx hb dL_hasConcern_0 rfl (lv_at hl 2 rfl) ?_
  refine lv_iconst (v := 0) hx hb dL_hasConcern_1 (by decide) ?_
  refine lv_aload_n hx hb dL_hasConcern_2 rfl (lv_at hl 0 rfl) ?_
  refine lv_iload_n hx hb dL_hasConcern_3 rfl (lv_at hl 1 rfl) ?_
  have hPc := hP.sub (ws' := [(h, .inr (13, [.ref pe, .ref ne, .ref pa, .ref ro, .int dy])), (pa, .inr (4, [.int mc, .ref el, .int 0]))]) [0, 1] rfl
  have hDc := hD.sub (ws' := [(h, .inr (13, [.ref pe, .ref ne, .ref pa, .ref ro, .int dy])), (pa, .inr (4, [.int mc, .ref el, .int 0]))]) [0, 1] (by decide) rfl
  have hFc := va_free (wc := [(h, .inr (13, [.ref pe, .ref ne, .ref pa, .ref ro, .int dy])), (pa, .inr (4, [.int mc, .ref el, .int 0]))]) hD hS hA [0, 1] rfl
  refine vx_calli (vx_runV (As := [.int p0]) (rest := [.int 0, .ref oa]) ⟨hx, hb, hml, hown, hts⟩ (c_X8_hasConcern l hst D cy ed s.heap.size h pe ne pa ro dy mc el p0) (cwV 1 hts (zx_GV mm_1270 mm_1271 mm_1272 mm_71 mm_1273) rfl rfl rfl (by decide +kernel) ⟨(Nat.le_of_ble_eq_true rfl), (Nat.le_of_ble_eq_true rfl)⟩) ⟨zx_blind, va_recv hK hPc (ci := 13) (q0 := 0) rfl rfl, zx_give hPc hK hDc hS hFc hZ hN⟩ rfl rfl hl.1 rfl (lv_room (Nat.le_of_ble_eq_true rfl)) dL_hasConcern_4 ⟨(Nat.le_of_ble_eq_true rfl), (Nat.le_of_ble_eq_true rfl)⟩) hS (fun q _ h => hFc q h) hFc (fun q _ h => hFc q h) (fun E9 ce9 q9 _ t H locs ht hvm _ hBX hz1 hk1 hS hce hcv hcl => ?_) (fun r9 u t H locs ht hvm hw hB hz1 hk1 hS => ?_)
  · have hBX : (fun E9 => E9 = "java/lang/IndexOutOfBoundsException") E9 := hBX
    obtain rfl := hBX
    refine vx_catch hown [] { startPc := 0, endPc := 16, handlerPc := 19, catchType := 21 } [] (by rw [htb]; rfl) (fun z9 h9 => absurd h9 List.not_mem_nil) (by decide) (by decide) (hts (.classLink RL 21 "java/lang/IndexOutOfBoundsException") (zx_Gc mm_432)) (zx_cast_moved (Vm.Alike.refl _) (hN.2.2.1 _ _ (List.mem_of_getElem? (i := 475) (by decide +kernel)))) hce hcv hcl ?_
    obtain ⟨hP, hD⟩ := va_join (wr := [(oa, .inl (cy 3, 1, .inr (.inl og)))]) (w1 := []) hP hD [0, 1] [2] rfl rfl (by decide) (by decide) hk1 hFc zx_P0 zx_D0
    have hP : va_P D vwCl [(oa, .inl (cy 3, 1, .inr (.inl og)))] H := hP
    have hD : va_D A [(oa, .inl (cy 3, 1, .inr (.inl og)))] := hD
    refine W.widen (k := 1) (n := 6) (Nat.le_of_ble_eq_true rfl) (Nat.le_of_ble_eq_true rfl) ?_
    refine lv_astore_n (lv' := [(3, .ref q9), (0, .ref h), (1, .int p0), (2, .ref oa)]) hx hb dL_hasConcern_19 rfl hl (by decide) rfl (fun ls hl => ?_)
    refine lv_iconst (v := 1) hx hb dL_hasConcern_20 (by decide) ?_
    have hP9 := hP.sub (ws' := []) [] rfl
    have hD9 := hD.sub (ws' := []) [] (by decide) rfl
    refine vx_ret ?_
    exact W.iret (v := 1) hx hb hr (fun t ht hW => ⟨⟨1, (), rfl, rfl, zx_fin hP9 hD9 hK ht hW⟩, hS.F ht⟩) hS.2.2 dL_hasConcern_21
  · exact hw.elim
set_option maxHeartbeats 4000000 in
set_option maxRecDepth 100000 in
theorem c_L_step (l : Launch) (hst : l.stackTraces = false) (D : va_G) (cy : Nat → ClassId) (ed sz : Nat) (h : Nat) (pe : Nat) (ne : Nat) (pa : Nat) (ro : Nat) (dy : Int32) (mc : Int32) (el : Nat) (oa : Nat) (og : Nat → Int64) (p0 : Int32) (p1 : Int32) (p2 : Int32) : vx_Met l yL_step wzL_step ({ frames := 9, cells := 1, slots := 6, locals := 147 }) (zx_Pc D cy ed sz [.ref h, .int p0, .int p1, .int p2, .ref oa] [(h, .inr (13, [.ref pe, .ref ne, .ref pa, .ref ro, .int dy])), (pa, .inr (4, [.int mc, .ref el, .int 0])), (oa, .inl (cy 3, 1, .inr (.inl og)))]) (va_Qi (fun (r9 : Int32) (u9 : Unit) => r9 = 1) (fun (u9 : Unit) (t9 : State) => zx_At D cy (va_A [(h, .inr (13, [.ref pe, .ref ne, .ref pa, .ref ro, .int dy])), (pa, .inr (4, [.int mc, .ref el, .int 0])), (oa, .inl (cy 3, 1, .inr (.inl og)))] sz) [] t9) (va_A [(h, .inr (13, [.ref pe, .ref ne, .ref pa, .ref ro, .int dy])), (pa, .inr (4, [.int mc, .ref el, .int 0])), (oa, .inl (cy 3, 1, .inr (.inl og)))] sz)) (zx_X (fun _ => False) (va_A [(h, .inr (13, [.ref pe, .ref ne, .ref pa, .ref ro, .int dy])), (pa, .inr (4, [.int mc, .ref el, .int 0])), (oa, .inl (cy 3, 1, .inr (.inl og)))] sz)) 1 6 (va_A [(h, .inr (13, [.ref pe, .ref ne, .ref pa, .ref ro, .int dy])), (pa, .inr (4, [.int mc, .ref el, .int 0])), (oa, .inl (cy 3, 1, .inr (.inl og)))] sz) := by
  refine vx_ofWH (cc := cL_step) (maxL := 6) (ret := (some .int)) (hh := [(0, 12, 15, 21), (0, 12, 19, 13), (0, 12, 23, 45), (0, 12, 27, 15)]) (by decide) rfl ?_
  intro p e s m args below meth c s₁ B hml hv
  have htb := vx_table (x := objectInit) B (atoms_spec (ws := wzL_step) B.pre _ List.mem_cons_self)
  obtain ⟨rfl, hsz, hP, hK, hD0, hZ, hN⟩ := hv
  have hx := B.exec
  have hb := B.bytes
  have hr := B.returns
  have hts := atoms_spec (ws := wzL_step) B.pre
  have hown : s.vm.findClass RL = some m.cls := findClass_of_methodNamed B.named
  have hlocks := B.notSynchronized
  subst hsz
  have hD := hD0.self (sz := s.heap.size)
  generalize hAe : va_A [(h, .inr (13, [.ref pe, .ref ne, .ref pa, .ref ro, .int dy])), (pa, .inr (4, [.int mc, .ref el, .int 0])), (oa, .inl (cy 3, 1, .inr (.inl og)))] s.heap.size = A at hD hZ ⊢
  have hA : ∀ q : Nat, s.heap.size ≤ q → A q := fun q h => by rw [← hAe]; exact Or.inr h
  have hS : va_S A s.heap s.heap [] := va_S.rf
  have hP : va_P D vwCl [(h, .inr (13, [.ref pe, .ref ne, .ref pa, .ref ro, .int dy])), (pa, .inr (4, [.int mc, .ref el, .int 0])), (oa, .inl (cy 3, 1, .inr (.inl og)))] s.heap := hP
  have hl := lv_entry ([.ref h, .int p0, .int p1, .int p2, .ref oa]) (n := 6) (Nat.le_of_ble_eq_true rfl)
  rw [lg_entry_eq]
  generalize (lg_sl ([.ref h, .int p0, .int p1, .int p2, .ref oa]) ++ List.replicate (6 - (lg_sl ([.ref h, .int p0, .int p1, .int p2, .ref oa])).length) Slot.unset).toArray = ls at hl ⊢
  have hl : lv_has ls 6 [(0, .ref h), (1, .int p0), (2, .int p1), (3, .int p2), (4, .ref oa)] := hl
  refine lv_aload hx hb dL_step_0 (lv_at hl 4 rfl) ?_
  refine lv_iconst (v := 0) hx hb dL_step_2 (by decide) ?_
  refine lv_aload_n hx hb dL_step_3 rfl (lv_at hl 0 rfl) ?_
  refine lv_iload_n hx hb dL_step_4 rfl (lv_at hl 1 rfl) ?_
  refine lv_iload_n hx hb dL_step_5 rfl (lv_at hl 2 rfl) ?_
  refine lv_iload_n hx hb dL_step_6 rfl (lv_at hl 3 rfl) ?_
  have hPc := hP.sub (ws' := [(h, .inr (13, [.ref pe, .ref ne, .ref pa, .ref ro, .int dy])), (pa, .inr (4, [.int mc, .ref el, .int 0]))]) [0, 1] rfl
  have hDc := hD.sub (ws' := [(h, .inr (13, [.ref pe, .ref ne, .ref pa, .ref ro, .int dy])), (pa, .inr (4, [.int mc, .ref el, .int 0]))]) [0, 1] (by decide) rfl
  have hFc := va_free (wc := [(h, .inr (13, [.ref pe, .ref ne, .ref pa, .ref ro, .int dy])), (pa, .inr (4, [.int mc, .ref el, .int 0]))]) hD hS hA [0, 1] rfl
  refine vx_calli (vx_runV (As := [.int p0, .int p1, .int p2]) (rest := [.int 0, .ref oa]) ⟨hx, hb, hml, hown, hts⟩ (c_X8_step l hst D cy ed s.heap.size h pe ne pa ro dy mc el p0 p1 p2) (cwV 3 hts (zx_GV mm_1277 mm_1278 mm_1279 mm_71 mm_1280) rfl rfl rfl (by decide +kernel) ⟨(Nat.le_of_ble_eq_true rfl), (Nat.le_of_ble_eq_true rfl)⟩) ⟨zx_blind, va_recv hK hPc (ci := 13) (q0 := 0) rfl rfl, zx_give hPc hK hDc hS hFc hZ hN⟩ rfl rfl hl.1 rfl (lv_room (Nat.le_of_ble_eq_true rfl)) dL_step_7 ⟨(Nat.le_of_ble_eq_true rfl), (Nat.le_of_ble_eq_true rfl)⟩) hS (fun q _ h => hFc q h) hFc (fun q _ h => hFc q h) (fun E9 ce9 q9 _ t H locs ht hvm _ hBX hz1 hk1 hS hce hcv hcl => ?_) (fun r9 u t H locs ht hvm hw hB hz1 hk1 hS => ?_)
  · have hBX : (fun E9 => E9 = "java/lang/IndexOutOfBoundsException") E9 := hBX
    obtain rfl := hBX
    refine vx_catch hown [] { startPc := 0, endPc := 12, handlerPc := 15, catchType := 21 } [({ startPc := 0, endPc := 12, handlerPc := 19, catchType := 13 } : ExceptionTableEntry), ({ startPc := 0, endPc := 12, handlerPc := 23, catchType := 45 } : ExceptionTableEntry), ({ startPc := 0, endPc := 12, handlerPc := 27, catchType := 15 } : ExceptionTableEntry)] (by rw [htb]; rfl) (fun z9 h9 => absurd h9 List.not_mem_nil) (by decide) (by decide) (hts (.classLink RL 21 "java/lang/IndexOutOfBoundsException") (zx_Gc mm_432)) (zx_cast_moved (Vm.Alike.refl _) (hN.2.2.1 _ _ (List.mem_of_getElem? (i := 475) (by decide +kernel)))) hce hcv hcl ?_
    obtain ⟨hP, hD⟩ := va_join (wr := [(oa, .inl (cy 3, 1, .inr (.inl og)))]) (w1 := []) hP hD [0, 1] [2] rfl rfl (by decide) (by decide) hk1 hFc zx_P0 zx_D0
    have hP : va_P D vwCl [(oa, .inl (cy 3, 1, .inr (.inl og)))] H := hP
    have hD : va_D A [(oa, .inl (cy 3, 1, .inr (.inl og)))] := hD
    refine W.widen (k := 1) (n := 6) (Nat.le_of_ble_eq_true rfl) (Nat.le_of_ble_eq_true rfl) ?_
    refine lv_astore (lv' := [(5, .ref q9), (0, .ref h), (1, .int p0), (2, .int p1), (3, .int p2), (4, .ref oa)]) hx hb dL_step_15 hl (by decide) rfl (fun ls hl => ?_)
    refine lv_iconst (v := 1) hx hb dL_step_17 (by decide) ?_
    have hP9 := hP.sub (ws' := []) [] rfl
    have hD9 := hD.sub (ws' := []) [] (by decide) rfl
    refine vx_ret ?_
    exact W.iret (v := 1) hx hb hr (fun t ht hW => ⟨⟨1, (), rfl, rfl, zx_fin hP9 hD9 hK ht hW⟩, hS.F ht⟩) hS.2.2 dL_step_18
  · exact hw.elim
set_option maxHeartbeats 4000000 in
set_option maxRecDepth 100000 in
theorem c_L_claim (l : Launch) (hst : l.stackTraces = false) (D : va_G) (cy : Nat → ClassId) (ed sz : Nat) (h : Nat) (pe : Nat) (ne : Nat) (pa : Nat) (ro : Nat) (dy : Int32) (mc : Int32) (el : Nat) (oa : Nat) (og : Nat → Int64) (p0 : Int32) (p1 : Int32) : vx_Met l yL_claim wzL_claim ({ frames := 9, cells := 1, slots := 6, locals := 147 }) (zx_Pc D cy ed sz [.ref h, .int p0, .int p1, .ref oa] [(h, .inr (13, [.ref pe, .ref ne, .ref pa, .ref ro, .int dy])), (pa, .inr (4, [.int mc, .ref el, .int 0])), (oa, .inl (cy 3, 1, .inr (.inl og)))]) (va_Qi (fun (r9 : Int32) (u9 : Unit) => r9 = 1) (fun (u9 : Unit) (t9 : State) => zx_At D cy (va_A [(h, .inr (13, [.ref pe, .ref ne, .ref pa, .ref ro, .int dy])), (pa, .inr (4, [.int mc, .ref el, .int 0])), (oa, .inl (cy 3, 1, .inr (.inl og)))] sz) [] t9) (va_A [(h, .inr (13, [.ref pe, .ref ne, .ref pa, .ref ro, .int dy])), (pa, .inr (4, [.int mc, .ref el, .int 0])), (oa, .inl (cy 3, 1, .inr (.inl og)))] sz)) (zx_X (fun _ => False) (va_A [(h, .inr (13, [.ref pe, .ref ne, .ref pa, .ref ro, .int dy])), (pa, .inr (4, [.int mc, .ref el, .int 0])), (oa, .inl (cy 3, 1, .inr (.inl og)))] sz)) 1 6 (va_A [(h, .inr (13, [.ref pe, .ref ne, .ref pa, .ref ro, .int dy])), (pa, .inr (4, [.int mc, .ref el, .int 0])), (oa, .inl (cy 3, 1, .inr (.inl og)))] sz) := by
  refine vx_ofWH (cc := cL_claim) (maxL := 5) (ret := (some .int)) (hh := [(0, 10, 13, 21), (0, 10, 17, 45)]) (by decide) rfl ?_
  intro p e s m args below meth c s₁ B hml hv
  have htb := vx_table (x := objectInit) B (atoms_spec (ws := wzL_claim) B.pre _ List.mem_cons_self)
  obtain ⟨rfl, hsz, hP, hK, hD0, hZ, hN⟩ := hv
  have hx := B.exec
  have hb := B.bytes
  have hr := B.returns
  have hts := atoms_spec (ws := wzL_claim) B.pre
  have hown : s.vm.findClass RL = some m.cls := findClass_of_methodNamed B.named
  have hlocks := B.notSynchronized
  subst hsz
  have hD := hD0.self (sz := s.heap.size)
  generalize hAe : va_A [(h, .inr (13, [.ref pe, .ref ne, .ref pa, .ref ro, .int dy])), (pa, .inr (4, [.int mc, .ref el, .int 0])), (oa, .inl (cy 3, 1, .inr (.inl og)))] s.heap.size = A at hD hZ ⊢
  have hA : ∀ q : Nat, s.heap.size ≤ q → A q := fun q h => by rw [← hAe]; exact Or.inr h
  have hS : va_S A s.heap s.heap [] := va_S.rf
  have hP : va_P D vwCl [(h, .inr (13, [.ref pe, .ref ne, .ref pa, .ref ro, .int dy])), (pa, .inr (4, [.int mc, .ref el, .int 0])), (oa, .inl (cy 3, 1, .inr (.inl og)))] s.heap := hP
  have hl := lv_entry ([.ref h, .int p0, .int p1, .ref oa]) (n := 5) (Nat.le_of_ble_eq_true rfl)
  rw [lg_entry_eq]
  generalize (lg_sl ([.ref h, .int p0, .int p1, .ref oa]) ++ List.replicate (5 - (lg_sl ([.ref h, .int p0, .int p1, .ref oa])).length) Slot.unset).toArray = ls at hl ⊢
  have hl : lv_has ls 5 [(0, .ref h), (1, .int p0), (2, .int p1), (3, .ref oa)] := hl
  refine lv_aload_n hx hb dL_claim_0 rfl (lv_at hl 3 rfl) ?_
  refine lv_iconst (v := 0) hx hb dL_claim_1 (by decide) ?_
  refine lv_aload_n hx hb dL_claim_2 rfl (lv_at hl 0 rfl) ?_
  refine lv_iload_n hx hb dL_claim_3 rfl (lv_at hl 1 rfl) ?_
  refine lv_iload_n hx hb dL_claim_4 rfl (lv_at hl 2 rfl) ?_
  have hPc := hP.sub (ws' := [(h, .inr (13, [.ref pe, .ref ne, .ref pa, .ref ro, .int dy])), (pa, .inr (4, [.int mc, .ref el, .int 0]))]) [0, 1] rfl
  have hDc := hD.sub (ws' := [(h, .inr (13, [.ref pe, .ref ne, .ref pa, .ref ro, .int dy])), (pa, .inr (4, [.int mc, .ref el, .int 0]))]) [0, 1] (by decide) rfl
  have hFc := va_free (wc := [(h, .inr (13, [.ref pe, .ref ne, .ref pa, .ref ro, .int dy])), (pa, .inr (4, [.int mc, .ref el, .int 0]))]) hD hS hA [0, 1] rfl
  refine vx_calli (vx_runV (As := [.int p0, .int p1]) (rest := [.int 0, .ref oa]) ⟨hx, hb, hml, hown, hts⟩ (c_X8_claim l hst D cy ed s.heap.size h pe ne pa ro dy mc el p0 p1) (cwV 2 hts (zx_GV mm_1288 mm_1289 mm_1290 mm_71 mm_1291) rfl rfl rfl (by decide +kernel) ⟨(Nat.le_of_ble_eq_true rfl), (Nat.le_of_ble_eq_true rfl)⟩) ⟨zx_blind, va_recv hK hPc (ci := 13) (q0 := 0) rfl rfl, zx_give hPc hK hDc hS hFc hZ hN⟩ rfl rfl hl.1 rfl (lv_room (Nat.le_of_ble_eq_true rfl)) dL_claim_5 ⟨(Nat.le_of_ble_eq_true rfl), (Nat.le_of_ble_eq_true rfl)⟩) hS (fun q _ h => hFc q h) hFc (fun q _ h => hFc q h) (fun E9 ce9 q9 _ t H locs ht hvm _ hBX hz1 hk1 hS hce hcv hcl => ?_) (fun r9 u t H locs ht hvm hw hB hz1 hk1 hS => ?_)
  · have hBX : (fun E9 => E9 = "java/lang/IndexOutOfBoundsException") E9 := hBX
    obtain rfl := hBX
    refine vx_catch hown [] { startPc := 0, endPc := 10, handlerPc := 13, catchType := 21 } [({ startPc := 0, endPc := 10, handlerPc := 17, catchType := 45 } : ExceptionTableEntry)] (by rw [htb]; rfl) (fun z9 h9 => absurd h9 List.not_mem_nil) (by decide) (by decide) (hts (.classLink RL 21 "java/lang/IndexOutOfBoundsException") (zx_Gc mm_432)) (zx_cast_moved (Vm.Alike.refl _) (hN.2.2.1 _ _ (List.mem_of_getElem? (i := 475) (by decide +kernel)))) hce hcv hcl ?_
    obtain ⟨hP, hD⟩ := va_join (wr := [(oa, .inl (cy 3, 1, .inr (.inl og)))]) (w1 := []) hP hD [0, 1] [2] rfl rfl (by decide) (by decide) hk1 hFc zx_P0 zx_D0
    have hP : va_P D vwCl [(oa, .inl (cy 3, 1, .inr (.inl og)))] H := hP
    have hD : va_D A [(oa, .inl (cy 3, 1, .inr (.inl og)))] := hD
    refine W.widen (k := 1) (n := 6) (Nat.le_of_ble_eq_true rfl) (Nat.le_of_ble_eq_true rfl) ?_
    refine lv_astore (lv' := [(4, .ref q9), (0, .ref h), (1, .int p0), (2, .int p1), (3, .ref oa)]) hx hb dL_claim_13 hl (by decide) rfl (fun ls hl => ?_)
    refine lv_iconst (v := 1) hx hb dL_claim_15 (by decide) ?_
    have hP9 := hP.sub (ws' := []) [] rfl
    have hD9 := hD.sub (ws' := []) [] (by decide) rfl
    refine vx_ret ?_
    exact W.iret (v := 1) hx hb hr (fun t ht hW => ⟨⟨1, (), rfl, rfl, zx_fin hP9 hD9 hK ht hW⟩, hS.F ht⟩) hS.2.2 dL_claim_16
  · exact hw.elim
set_option maxHeartbeats 4000000 in
set_option maxRecDepth 100000 in
theorem c_L_isRight (l : Launch) (hst : l.stackTraces = false) (D : va_G) (cy : Nat → ClassId) (ed sz : Nat) (h : Nat) (pe : Nat) (ne : Nat) (pa : Nat) (ro : Nat) (dy : Int32) (mc : Int32) (el : Nat) (oa : Nat) (og : Nat → Int64) (p0 : Int32) : vx_Met l yL_isRight wzL_isRight ({ frames := 9, cells := 1, slots := 6, locals := 145 }) (zx_Pc D cy ed sz [.ref h, .int p0, .ref oa] [(h, .inr (13, [.ref pe, .ref ne, .ref pa, .ref ro, .int dy])), (pa, .inr (4, [.int mc, .ref el, .int 0])), (oa, .inl (cy 3, 1, .inr (.inl og)))]) (va_Qi (fun (r9 : Int32) (u9 : Unit) => r9 = 1) (fun (u9 : Unit) (t9 : State) => zx_At D cy (va_A [(h, .inr (13, [.ref pe, .ref ne, .ref pa, .ref ro, .int dy])), (pa, .inr (4, [.int mc, .ref el, .int 0])), (oa, .inl (cy 3, 1, .inr (.inl og)))] sz) [] t9) (va_A [(h, .inr (13, [.ref pe, .ref ne, .ref pa, .ref ro, .int dy])), (pa, .inr (4, [.int mc, .ref el, .int 0])), (oa, .inl (cy 3, 1, .inr (.inl og)))] sz)) (zx_X (fun _ => False) (va_A [(h, .inr (13, [.ref pe, .ref ne, .ref pa, .ref ro, .int dy])), (pa, .inr (4, [.int mc, .ref el, .int 0])), (oa, .inl (cy 3, 1, .inr (.inl og)))] sz)) 1 6 (va_A [(h, .inr (13, [.ref pe, .ref ne, .ref pa, .ref ro, .int dy])), (pa, .inr (4, [.int mc, .ref el, .int 0])), (oa, .inl (cy 3, 1, .inr (.inl og)))] sz) := by
  refine vx_ofWH (cc := cL_isRight) (maxL := 4) (ret := (some .int)) (hh := [(0, 16, 19, 21)]) (by decide) rfl ?_
  intro p e s m args below meth c s₁ B hml hv
  have htb := vx_table (x := objectInit) B (atoms_spec (ws := wzL_isRight) B.pre _ List.mem_cons_self)
  obtain ⟨rfl, hsz, hP, hK, hD0, hZ, hN⟩ := hv
  have hx := B.exec
  have hb := B.bytes
  have hr := B.returns
  have hts := atoms_spec (ws := wzL_isRight) B.pre
  have hown : s.vm.findClass RL = some m.cls := findClass_of_methodNamed B.named
  have hlocks := B.notSynchronized
  subst hsz
  have hD := hD0.self (sz := s.heap.size)
  generalize hAe : va_A [(h, .inr (13, [.ref pe, .ref ne, .ref pa, .ref ro, .int dy])), (pa, .inr (4, [.int mc, .ref el, .int 0])), (oa, .inl (cy 3, 1, .inr (.inl og)))] s.heap.size = A at hD hZ ⊢
  have hA : ∀ q : Nat, s.heap.size ≤ q → A q := fun q h => by rw [← hAe]; exact Or.inr h
  have hS : va_S A s.heap s.heap [] := va_S.rf
  have hP : va_P D vwCl [(h, .inr (13, [.ref pe, .ref ne, .ref pa, .ref ro, .int dy])), (pa, .inr (4, [.int mc, .ref el, .int 0])), (oa, .inl (cy 3, 1, .inr (.inl og)))] s.heap := hP
  have hl := lv_entry ([.ref h, .int p0, .ref oa]) (n := 4) (Nat.le_of_ble_eq_true rfl)
  rw [lg_entry_eq]
  generalize (lg_sl ([.ref h, .int p0, .ref oa]) ++ List.replicate (4 - (lg_sl ([.ref h, .int p0, .ref oa])).length) Slot.unset).toArray = ls at hl ⊢
  have hl : lv_has ls 4 [(0, .ref h), (1, .int p0), (2, .ref oa)] := hl
  refine lv_aload_n hx hb dL_isRight_0 rfl (lv_at hl 2 rfl) ?_
  refine lv_iconst (v := 0) hx hb dL_isRight_1 (by decide) ?_
  refine lv_aload_n hx hb dL_isRight_2 rfl (lv_at hl 0 rfl) ?_
  refine lv_iload_n hx hb dL_isRight_3 rfl (lv_at hl 1 rfl) ?_
  have hPc := hP.sub (ws' := [(h, .inr (13, [.ref pe, .ref ne, .ref pa, .ref ro, .int dy])), (pa, .inr (4, [.int mc, .ref el, .int 0]))]) [0, 1] rfl
  have hDc := hD.sub (ws' := [(h, .inr (13, [.ref pe, .ref ne, .ref pa, .ref ro, .int dy])), (pa, .inr (4, [.int mc, .ref el, .int 0]))]) [0, 1] (by decide) rfl
  have hFc := va_free (wc := [(h, .inr (13, [.ref pe, .ref ne, .ref pa, .ref ro, .int dy])), (pa, .inr (4, [.int mc, .ref el, .int 0]))]) hD hS hA [0, 1] rfl
  refine vx_calli (vx_runV (As := [.int p0]) (rest := [.int 0, .ref oa]) ⟨hx, hb, hml, hown, hts⟩ (c_X8_isRight l hst D cy ed s.heap.size h pe ne pa ro dy mc el p0) (cwV 1 hts (zx_GV mm_1295 mm_1296 mm_1297 mm_71 mm_1298) rfl rfl rfl (by decide +kernel) ⟨(Nat.le_of_ble_eq_true rfl), (Nat.le_of_ble_eq_true rfl)⟩) ⟨zx_blind, va_recv hK hPc (ci := 13) (q0 := 0) rfl rfl, zx_give hPc hK hDc hS hFc hZ hN⟩ rfl rfl hl.1 rfl (lv_room (Nat.le_of_ble_eq_true rfl)) dL_isRight_4 ⟨(Nat.le_of_ble_eq_true rfl), (Nat.le_of_ble_eq_true rfl)⟩) hS (fun q _ h => hFc q h) hFc (fun q _ h => hFc q h) (fun E9 ce9 q9 _ t H locs ht hvm _ hBX hz1 hk1 hS hce hcv hcl => ?_) (fun r9 u t H locs ht hvm hw hB hz1 hk1 hS => ?_)
  · have hBX : (fun E9 => E9 = "java/lang/IndexOutOfBoundsException") E9 := hBX
    obtain rfl := hBX
    refine vx_catch hown [] { startPc := 0, endPc := 16, handlerPc := 19, catchType := 21 } [] (by rw [htb]; rfl) (fun z9 h9 => absurd h9 List.not_mem_nil) (by decide) (by decide) (hts (.classLink RL 21 "java/lang/IndexOutOfBoundsException") (zx_Gc mm_432)) (zx_cast_moved (Vm.Alike.refl _) (hN.2.2.1 _ _ (List.mem_of_getElem? (i := 475) (by decide +kernel)))) hce hcv hcl ?_
    obtain ⟨hP, hD⟩ := va_join (wr := [(oa, .inl (cy 3, 1, .inr (.inl og)))]) (w1 := []) hP hD [0, 1] [2] rfl rfl (by decide) (by decide) hk1 hFc zx_P0 zx_D0
    have hP : va_P D vwCl [(oa, .inl (cy 3, 1, .inr (.inl og)))] H := hP
    have hD : va_D A [(oa, .inl (cy 3, 1, .inr (.inl og)))] := hD
    refine W.widen (k := 1) (n := 6) (Nat.le_of_ble_eq_true rfl) (Nat.le_of_ble_eq_true rfl) ?_
    refine lv_astore_n (lv' := [(3, .ref q9), (0, .ref h), (1, .int p0), (2, .ref oa)]) hx hb dL_isRight_19 rfl hl (by decide) rfl (fun ls hl => ?_)
    refine lv_iconst (v := 1) hx hb dL_isRight_20 (by decide) ?_
    have hP9 := hP.sub (ws' := []) [] rfl
    have hD9 := hD.sub (ws' := []) [] (by decide) rfl
    refine vx_ret ?_
    exact W.iret (v := 1) hx hb hr (fun t ht hW => ⟨⟨1, (), rfl, rfl, zx_fin hP9 hD9 hK ht hW⟩, hS.F ht⟩) hS.2.2 dL_isRight_21
  · exact hw.elim
set_option maxHeartbeats 4000000 in
set_option maxRecDepth 100000 in
theorem c_L_likeness (l : Launch) (hst : l.stackTraces = false) (D : va_G) (cy : Nat → ClassId) (ed sz : Nat) (h : Nat) (pe : Nat) (ne : Nat) (pa : Nat) (ro : Nat) (dy : Int32) (mc : Int32) (el : Nat) (oa : Nat) (og : Nat → Int64) (p0 : Int32) (p1 : Int32) : vx_Met l yL_likeness wzL_likeness ({ frames := 9, cells := 1, slots := 6, locals := 147 }) (zx_Pc D cy ed sz [.ref h, .int p0, .int p1, .ref oa] [(h, .inr (13, [.ref pe, .ref ne, .ref pa, .ref ro, .int dy])), (pa, .inr (4, [.int mc, .ref el, .int 0])), (oa, .inl (cy 3, 1, .inr (.inl og)))]) (va_Qi (fun (r9 : Int32) (u9 : Unit) => r9 = 1) (fun (u9 : Unit) (t9 : State) => zx_At D cy (va_A [(h, .inr (13, [.ref pe, .ref ne, .ref pa, .ref ro, .int dy])), (pa, .inr (4, [.int mc, .ref el, .int 0])), (oa, .inl (cy 3, 1, .inr (.inl og)))] sz) [] t9) (va_A [(h, .inr (13, [.ref pe, .ref ne, .ref pa, .ref ro, .int dy])), (pa, .inr (4, [.int mc, .ref el, .int 0])), (oa, .inl (cy 3, 1, .inr (.inl og)))] sz)) (zx_X (fun _ => False) (va_A [(h, .inr (13, [.ref pe, .ref ne, .ref pa, .ref ro, .int dy])), (pa, .inr (4, [.int mc, .ref el, .int 0])), (oa, .inl (cy 3, 1, .inr (.inl og)))] sz)) 1 6 (va_A [(h, .inr (13, [.ref pe, .ref ne, .ref pa, .ref ro, .int dy])), (pa, .inr (4, [.int mc, .ref el, .int 0])), (oa, .inl (cy 3, 1, .inr (.inl og)))] sz) := by
  refine vx_ofWH (cc := cL_likeness) (maxL := 5) (ret := (some .int)) (hh := [(0, 10, 13, 21)]) (by decide) rfl ?_
  intro p e s m args below meth c s₁ B hml hv
  have htb := vx_table (x := objectInit) B (atoms_spec (ws := wzL_likeness) B.pre _ List.mem_cons_self)
  obtain ⟨rfl, hsz, hP, hK, hD0, hZ, hN⟩ := hv
  have hx := B.exec
  have hb := B.bytes
  have hr := B.returns
  have hts := atoms_spec (ws := wzL_likeness) B.pre
  have hown : s.vm.findClass RL = some m.cls := findClass_of_methodNamed B.named
  have hlocks := B.notSynchronized
  subst hsz
  have hD := hD0.self (sz := s.heap.size)
  generalize hAe : va_A [(h, .inr (13, [.ref pe, .ref ne, .ref pa, .ref ro, .int dy])), (pa, .inr (4, [.int mc, .ref el, .int 0])), (oa, .inl (cy 3, 1, .inr (.inl og)))] s.heap.size = A at hD hZ ⊢
  have hA : ∀ q : Nat, s.heap.size ≤ q → A q := fun q h => by rw [← hAe]; exact Or.inr h
  have hS : va_S A s.heap s.heap [] := va_S.rf
  have hP : va_P D vwCl [(h, .inr (13, [.ref pe, .ref ne, .ref pa, .ref ro, .int dy])), (pa, .inr (4, [.int mc, .ref el, .int 0])), (oa, .inl (cy 3, 1, .inr (.inl og)))] s.heap := hP
  have hl := lv_entry ([.ref h, .int p0, .int p1, .ref oa]) (n := 5) (Nat.le_of_ble_eq_true rfl)
  rw [lg_entry_eq]
  generalize (lg_sl ([.ref h, .int p0, .int p1, .ref oa]) ++ List.replicate (5 - (lg_sl ([.ref h, .int p0, .int p1, .ref oa])).length) Slot.unset).toArray = ls at hl ⊢
  have hl : lv_has ls 5 [(0, .ref h), (1, .int p0), (2, .int p1), (3, .ref oa)] := hl
  refine lv_aload_n hx hb dL_likeness_0 rfl (lv_at hl 3 rfl) ?_
  refine lv_iconst (v := 0) hx hb dL_likeness_1 (by decide) ?_
  refine lv_aload_n hx hb dL_likeness_2 rfl (lv_at hl 0 rfl) ?_
  refine lv_iload_n hx hb dL_likeness_3 rfl (lv_at hl 1 rfl) ?_
  refine lv_iload_n hx hb dL_likeness_4 rfl (lv_at hl 2 rfl) ?_
  have hPc := hP.sub (ws' := [(h, .inr (13, [.ref pe, .ref ne, .ref pa, .ref ro, .int dy])), (pa, .inr (4, [.int mc, .ref el, .int 0]))]) [0, 1] rfl
  have hDc := hD.sub (ws' := [(h, .inr (13, [.ref pe, .ref ne, .ref pa, .ref ro, .int dy])), (pa, .inr (4, [.int mc, .ref el, .int 0]))]) [0, 1] (by decide) rfl
  have hFc := va_free (wc := [(h, .inr (13, [.ref pe, .ref ne, .ref pa, .ref ro, .int dy])), (pa, .inr (4, [.int mc, .ref el, .int 0]))]) hD hS hA [0, 1] rfl
  refine vx_calli (vx_runV (As := [.int p0, .int p1]) (rest := [.int 0, .ref oa]) ⟨hx, hb, hml, hown, hts⟩ (c_X8_likeness l hst D cy ed s.heap.size h pe ne pa ro dy mc el p0 p1) (cwV 2 hts (zx_GV mm_1302 mm_1303 mm_1304 mm_71 mm_1305) rfl rfl rfl (by decide +kernel) ⟨(Nat.le_of_ble_eq_true rfl), (Nat.le_of_ble_eq_true rfl)⟩) ⟨zx_blind, va_recv hK hPc (ci := 13) (q0 := 0) rfl rfl, zx_give hPc hK hDc hS hFc hZ hN⟩ rfl rfl hl.1 rfl (lv_room (Nat.le_of_ble_eq_true rfl)) dL_likeness_5 ⟨(Nat.le_of_ble_eq_true rfl), (Nat.le_of_ble_eq_true rfl)⟩) hS (fun q _ h => hFc q h) hFc (fun q _ h => hFc q h) (fun E9 ce9 q9 _ t H locs ht hvm _ hBX hz1 hk1 hS hce hcv hcl => ?_) (fun r9 u t H locs ht hvm hw hB hz1 hk1 hS => ?_)
  · have hBX : (fun E9 => E9 = "java/lang/IndexOutOfBoundsException") E9 := hBX
    obtain rfl := hBX
    refine vx_catch hown [] { startPc := 0, endPc := 10, handlerPc := 13, catchType := 21 } [] (by rw [htb]; rfl) (fun z9 h9 => absurd h9 List.not_mem_nil) (by decide) (by decide) (hts (.classLink RL 21 "java/lang/IndexOutOfBoundsException") (zx_Gc mm_432)) (zx_cast_moved (Vm.Alike.refl _) (hN.2.2.1 _ _ (List.mem_of_getElem? (i := 475) (by decide +kernel)))) hce hcv hcl ?_
    obtain ⟨hP, hD⟩ := va_join (wr := [(oa, .inl (cy 3, 1, .inr (.inl og)))]) (w1 := []) hP hD [0, 1] [2] rfl rfl (by decide) (by decide) hk1 hFc zx_P0 zx_D0
    have hP : va_P D vwCl [(oa, .inl (cy 3, 1, .inr (.inl og)))] H := hP
    have hD : va_D A [(oa, .inl (cy 3, 1, .inr (.inl og)))] := hD
    refine W.widen (k := 1) (n := 6) (Nat.le_of_ble_eq_true rfl) (Nat.le_of_ble_eq_true rfl) ?_
    refine lv_astore (lv' := [(4, .ref q9), (0, .ref h), (1, .int p0), (2, .int p1), (3, .ref oa)]) hx hb dL_likeness_13 hl (by decide) rfl (fun ls hl => ?_)
    refine lv_iconst (v := 1) hx hb dL_likeness_15 (by decide) ?_
    have hP9 := hP.sub (ws' := []) [] rfl
    have hD9 := hD.sub (ws' := []) [] (by decide) rfl
    refine vx_ret ?_
    exact W.iret (v := 1) hx hb hr (fun t ht hW => ⟨⟨1, (), rfl, rfl, zx_fin hP9 hD9 hK ht hW⟩, hS.F ht⟩) hS.2.2 dL_likeness_16
  · exact hw.elim
set_option maxHeartbeats 4000000 in
set_option maxRecDepth 100000 in
theorem c_L_tellMoney (l : Launch) (hst : l.stackTraces = false) (D : va_G) (cy : Nat → ClassId) (ed sz : Nat) (h : Nat) (pe : Nat) (ne : Nat) (pa : Nat) (ro : Nat) (dy : Int32) (a1 : Nat) (a2 : Nat) (a3 : Nat) (a4 : Nat) (a5 : Nat) (a6 : Nat) (a7 : Nat) (a8 : Nat) (a9 : Nat) (oa : Nat) (og : Nat → Int64) (p0 : Int32) (p1 : Int32) (p2 : Int32) : vx_Met l yL_tellMoney wzL_tellMoney ({ frames := 8, cells := 1, slots := 6, locals := 126 }) (zx_Pc D cy ed sz [.ref h, .int p0, .int p1, .int p2, .ref oa] [(h, .inr (13, [.ref pe, .ref ne, .ref pa, .ref ro, .int dy])), (pe, .inr (9, [.int 0, .ref a1, .ref a2, .ref a3, .ref a4, .ref a5, .ref a6, .ref a7, .ref a8, .ref a9])), (oa, .inl (cy 3, 1, .inr (.inl og)))]) (va_Qi (fun (r9 : Int32) (u9 : Unit) => r9 = 1) (fun (u9 : Unit) (t9 : State) => zx_At D cy (va_A [(h, .inr (13, [.ref pe, .ref ne, .ref pa, .ref ro, .int dy])), (pe, .inr (9, [.int 0, .ref a1, .ref a2, .ref a3, .ref a4, .ref a5, .ref a6, .ref a7, .ref a8, .ref a9])), (oa, .inl (cy 3, 1, .inr (.inl og)))] sz) [] t9) (va_A [(h, .inr (13, [.ref pe, .ref ne, .ref pa, .ref ro, .int dy])), (pe, .inr (9, [.int 0, .ref a1, .ref a2, .ref a3, .ref a4, .ref a5, .ref a6, .ref a7, .ref a8, .ref a9])), (oa, .inl (cy 3, 1, .inr (.inl og)))] sz)) (zx_X (fun _ => False) (va_A [(h, .inr (13, [.ref pe, .ref ne, .ref pa, .ref ro, .int dy])), (pe, .inr (9, [.int 0, .ref a1, .ref a2, .ref a3, .ref a4, .ref a5, .ref a6, .ref a7, .ref a8, .ref a9])), (oa, .inl (cy 3, 1, .inr (.inl og)))] sz)) 1 6 (va_A [(h, .inr (13, [.ref pe, .ref ne, .ref pa, .ref ro, .int dy])), (pe, .inr (9, [.int 0, .ref a1, .ref a2, .ref a3, .ref a4, .ref a5, .ref a6, .ref a7, .ref a8, .ref a9])), (oa, .inl (cy 3, 1, .inr (.inl og)))] sz) := by
  refine vx_ofWH (cc := cL_tellMoney) (maxL := 6) (ret := (some .int)) (hh := [(0, 12, 15, 21), (0, 12, 19, 13)]) (by decide) rfl ?_
  intro p e s m args below meth c s₁ B hml hv
  have htb := vx_table (x := objectInit) B (atoms_spec (ws := wzL_tellMoney) B.pre _ List.mem_cons_self)
  obtain ⟨rfl, hsz, hP, hK, hD0, hZ, hN⟩ := hv
  have hx := B.exec
  have hb := B.bytes
  have hr := B.returns
  have hts := atoms_spec (ws := wzL_tellMoney) B.pre
  have hown : s.vm.findClass RL = some m.cls := findClass_of_methodNamed B.named
  have hlocks := B.notSynchronized
  subst hsz
  have hD := hD0.self (sz := s.heap.size)
  generalize hAe : va_A [(h, .inr (13, [.ref pe, .ref ne, .ref pa, .ref ro, .int dy])), (pe, .inr (9, [.int 0, .ref a1, .ref a2, .ref a3, .ref a4, .ref a5, .ref a6, .ref a7, .ref a8, .ref a9])), (oa, .inl (cy 3, 1, .inr (.inl og)))] s.heap.size = A at hD hZ ⊢
  have hA : ∀ q : Nat, s.heap.size ≤ q → A q := fun q h => by rw [← hAe]; exact Or.inr h
  have hS : va_S A s.heap s.heap [] := va_S.rf
  have hP : va_P D vwCl [(h, .inr (13, [.ref pe, .ref ne, .ref pa, .ref ro, .int dy])), (pe, .inr (9, [.int 0, .ref a1, .ref a2, .ref a3, .ref a4, .ref a5, .ref a6, .ref a7, .ref a8, .ref a9])), (oa, .inl (cy 3, 1, .inr (.inl og)))] s.heap := hP
  have hl := lv_entry ([.ref h, .int p0, .int p1, .int p2, .ref oa]) (n := 6) (Nat.le_of_ble_eq_true rfl)
  rw [lg_entry_eq]
  generalize (lg_sl ([.ref h, .int p0, .int p1, .int p2, .ref oa]) ++ List.replicate (6 - (lg_sl ([.ref h, .int p0, .int p1, .int p2, .ref oa])).length) Slot.unset).toArray = ls at hl ⊢
  have hl : lv_has ls 6 [(0, .ref h), (1, .int p0), (2, .int p1), (3, .int p2), (4, .ref oa)] := hl
  refine lv_aload hx hb dL_tellMoney_0 (lv_at hl 4 rfl) ?_
  refine lv_iconst (v := 0) hx hb dL_tellMoney_2 (by decide) ?_
  refine lv_aload_n hx hb dL_tellMoney_3 rfl (lv_at hl 0 rfl) ?_
  refine lv_iload_n hx hb dL_tellMoney_4 rfl (lv_at hl 1 rfl) ?_
  refine lv_iload_n hx hb dL_tellMoney_5 rfl (lv_at hl 2 rfl) ?_
  refine lv_iload_n hx hb dL_tellMoney_6 rfl (lv_at hl 3 rfl) ?_
  have hPc := hP.sub (ws' := [(h, .inr (13, [.ref pe, .ref ne, .ref pa, .ref ro, .int dy])), (pe, .inr (9, [.int 0, .ref a1, .ref a2, .ref a3, .ref a4, .ref a5, .ref a6, .ref a7, .ref a8, .ref a9]))]) [0, 1] rfl
  have hDc := hD.sub (ws' := [(h, .inr (13, [.ref pe, .ref ne, .ref pa, .ref ro, .int dy])), (pe, .inr (9, [.int 0, .ref a1, .ref a2, .ref a3, .ref a4, .ref a5, .ref a6, .ref a7, .ref a8, .ref a9]))]) [0, 1] (by decide) rfl
  have hFc := va_free (wc := [(h, .inr (13, [.ref pe, .ref ne, .ref pa, .ref ro, .int dy])), (pe, .inr (9, [.int 0, .ref a1, .ref a2, .ref a3, .ref a4, .ref a5, .ref a6, .ref a7, .ref a8, .ref a9]))]) hD hS hA [0, 1] rfl
  refine vx_calli (vx_runV (As := [.int p0, .int p1, .int p2]) (rest := [.int 0, .ref oa]) ⟨hx, hb, hml, hown, hts⟩ (c_X8_tellMoney l hst D cy ed s.heap.size h pe ne pa ro dy a1 a2 a3 a4 a5 a6 a7 a8 a9 p0 p1 p2) (cwV 3 hts (zx_GV mm_1309 mm_1310 mm_1311 mm_71 mm_1312) rfl rfl rfl (by decide +kernel) ⟨(Nat.le_of_ble_eq_true rfl), (Nat.le_of_ble_eq_true rfl)⟩) ⟨zx_blind, va_recv hK hPc (ci := 13) (q0 := 0) rfl rfl, zx_give hPc hK hDc hS hFc hZ hN⟩ rfl rfl hl.1 rfl (lv_room (Nat.le_of_ble_eq_true rfl)) dL_tellMoney_7 ⟨(Nat.le_of_ble_eq_true rfl), (Nat.le_of_ble_eq_true rfl)⟩) hS (fun q _ h => hFc q h) hFc (fun q _ h => hFc q h) (fun E9 ce9 q9 _ t H locs ht hvm _ hBX hz1 hk1 hS hce hcv hcl => ?_) (fun r9 u t H locs ht hvm hw hB hz1 hk1 hS => ?_)
  · have hBX : (fun E9 => E9 = "java/lang/IndexOutOfBoundsException") E9 := hBX
    obtain rfl := hBX
    refine vx_catch hown [] { startPc := 0, endPc := 12, handlerPc := 15, catchType := 21 } [({ startPc := 0, endPc := 12, handlerPc := 19, catchType := 13 } : ExceptionTableEntry)] (by rw [htb]; rfl) (fun z9 h9 => absurd h9 List.not_mem_nil) (by decide) (by decide) (hts (.classLink RL 21 "java/lang/IndexOutOfBoundsException") (zx_Gc mm_432)) (zx_cast_moved (Vm.Alike.refl _) (hN.2.2.1 _ _ (List.mem_of_getElem? (i := 475) (by decide +kernel)))) hce hcv hcl ?_
    obtain ⟨hP, hD⟩ := va_join (wr := [(oa, .inl (cy 3, 1, .inr (.inl og)))]) (w1 := []) hP hD [0, 1] [2] rfl rfl (by decide) (by decide) hk1 hFc zx_P0 zx_D0
    have hP : va_P D vwCl [(oa, .inl (cy 3, 1, .inr (.inl og)))] H := hP
    have hD : va_D A [(oa, .inl (cy 3, 1, .inr (.inl og)))] := hD
    refine W.widen (k := 1) (n := 6) (Nat.le_of_ble_eq_true rfl) (Nat.le_of_ble_eq_true rfl) ?_
    refine lv_astore (lv' := [(5, .ref q9), (0, .ref h), (1, .int p0), (2, .int p1), (3, .int p2), (4, .ref oa)]) hx hb dL_tellMoney_15 hl (by decide) rfl (fun ls hl => ?_)
    refine lv_iconst (v := 1) hx hb dL_tellMoney_17 (by decide) ?_
    have hP9 := hP.sub (ws' := []) [] rfl
    have hD9 := hD.sub (ws' := []) [] (by decide) rfl
    refine vx_ret ?_
    exact W.iret (v := 1) hx hb hr (fun t ht hW => ⟨⟨1, (), rfl, rfl, zx_fin hP9 hD9 hK ht hW⟩, hS.F ht⟩) hS.2.2 dL_tellMoney_18
  · exact hw.elim
set_option maxHeartbeats 4000000 in
set_option maxRecDepth 100000 in
theorem c_L_move (l : Launch) (hst : l.stackTraces = false) (D : va_G) (cy : Nat → ClassId) (ed sz : Nat) (h : Nat) (pe : Nat) (ne : Nat) (pa : Nat) (ro : Nat) (dy : Int32) (a1 : Nat) (a2 : Nat) (a3 : Nat) (a4 : Nat) (a5 : Nat) (a6 : Nat) (a7 : Nat) (a8 : Nat) (a9 : Nat) (oa : Nat) (og : Nat → Int64) (p0 : Int32) (p1 : Int32) : vx_Met l yL_move wzL_move ({ frames := 8, cells := 1, slots := 6, locals := 125 }) (zx_Pc D cy ed sz [.ref h, .int p0, .int p1, .ref oa] [(h, .inr (13, [.ref pe, .ref ne, .ref pa, .ref ro, .int dy])), (pe, .inr (9, [.int 0, .ref a1, .ref a2, .ref a3, .ref a4, .ref a5, .ref a6, .ref a7, .ref a8, .ref a9])), (oa, .inl (cy 3, 1, .inr (.inl og)))]) (va_Qi (fun (r9 : Int32) (u9 : Unit) => r9 = 1) (fun (u9 : Unit) (t9 : State) => zx_At D cy (va_A [(h, .inr (13, [.ref pe, .ref ne, .ref pa, .ref ro, .int dy])), (pe, .inr (9, [.int 0, .ref a1, .ref a2, .ref a3, .ref a4, .ref a5, .ref a6, .ref a7, .ref a8, .ref a9])), (oa, .inl (cy 3, 1, .inr (.inl og)))] sz) [] t9) (va_A [(h, .inr (13, [.ref pe, .ref ne, .ref pa, .ref ro, .int dy])), (pe, .inr (9, [.int 0, .ref a1, .ref a2, .ref a3, .ref a4, .ref a5, .ref a6, .ref a7, .ref a8, .ref a9])), (oa, .inl (cy 3, 1, .inr (.inl og)))] sz)) (zx_X (fun _ => False) (va_A [(h, .inr (13, [.ref pe, .ref ne, .ref pa, .ref ro, .int dy])), (pe, .inr (9, [.int 0, .ref a1, .ref a2, .ref a3, .ref a4, .ref a5, .ref a6, .ref a7, .ref a8, .ref a9])), (oa, .inl (cy 3, 1, .inr (.inl og)))] sz)) 1 6 (va_A [(h, .inr (13, [.ref pe, .ref ne, .ref pa, .ref ro, .int dy])), (pe, .inr (9, [.int 0, .ref a1, .ref a2, .ref a3, .ref a4, .ref a5, .ref a6, .ref a7, .ref a8, .ref a9])), (oa, .inl (cy 3, 1, .inr (.inl og)))] sz) := by
  refine vx_ofWH (cc := cL_move) (maxL := 5) (ret := (some .int)) (hh := [(0, 10, 13, 21), (0, 10, 17, 13)]) (by decide) rfl ?_
  intro p e s m args below meth c s₁ B hml hv
  have htb := vx_table (x := objectInit) B (atoms_spec (ws := wzL_move) B.pre _ List.mem_cons_self)
  obtain ⟨rfl, hsz, hP, hK, hD0, hZ, hN⟩ := hv
  have hx := B.exec
  have hb := B.bytes
  have hr := B.returns
  have hts := atoms_spec (ws := wzL_move) B.pre
  have hown : s.vm.findClass RL = some m.cls := findClass_of_methodNamed B.named
  have hlocks := B.notSynchronized
  subst hsz
  have hD := hD0.self (sz := s.heap.size)
  generalize hAe : va_A [(h, .inr (13, [.ref pe, .ref ne, .ref pa, .ref ro, .int dy])), (pe, .inr (9, [.int 0, .ref a1, .ref a2, .ref a3, .ref a4, .ref a5, .ref a6, .ref a7, .ref a8, .ref a9])), (oa, .inl (cy 3, 1, .inr (.inl og)))] s.heap.size = A at hD hZ ⊢
  have hA : ∀ q : Nat, s.heap.size ≤ q → A q := fun q h => by rw [← hAe]; exact Or.inr h
  have hS : va_S A s.heap s.heap [] := va_S.rf
  have hP : va_P D vwCl [(h, .inr (13, [.ref pe, .ref ne, .ref pa, .ref ro, .int dy])), (pe, .inr (9, [.int 0, .ref a1, .ref a2, .ref a3, .ref a4, .ref a5, .ref a6, .ref a7, .ref a8, .ref a9])), (oa, .inl (cy 3, 1, .inr (.inl og)))] s.heap := hP
  have hl := lv_entry ([.ref h, .int p0, .int p1, .ref oa]) (n := 5) (Nat.le_of_ble_eq_true rfl)
  rw [lg_entry_eq]
  generalize (lg_sl ([.ref h, .int p0, .int p1, .ref oa]) ++ List.replicate (5 - (lg_sl ([.ref h, .int p0, .int p1, .ref oa])).length) Slot.unset).toArray = ls at hl ⊢
  have hl : lv_has ls 5 [(0, .ref h), (1, .int p0), (2, .int p1), (3, .ref oa)] := hl
  refine lv_aload_n hx hb dL_move_0 rfl (lv_at hl 3 rfl) ?_
  refine lv_iconst (v := 0) hx hb dL_move_1 (by decide) ?_
  refine lv_aload_n hx hb dL_move_2 rfl (lv_at hl 0 rfl) ?_
  refine lv_iload_n hx hb dL_move_3 rfl (lv_at hl 1 rfl) ?_
  refine lv_iload_n hx hb dL_move_4 rfl (lv_at hl 2 rfl) ?_
  have hPc := hP.sub (ws' := [(h, .inr (13, [.ref pe, .ref ne, .ref pa, .ref ro, .int dy])), (pe, .inr (9, [.int 0, .ref a1, .ref a2, .ref a3, .ref a4, .ref a5, .ref a6, .ref a7, .ref a8, .ref a9]))]) [0, 1] rfl
  have hDc := hD.sub (ws' := [(h, .inr (13, [.ref pe, .ref ne, .ref pa, .ref ro, .int dy])), (pe, .inr (9, [.int 0, .ref a1, .ref a2, .ref a3, .ref a4, .ref a5, .ref a6, .ref a7, .ref a8, .ref a9]))]) [0, 1] (by decide) rfl
  have hFc := va_free (wc := [(h, .inr (13, [.ref pe, .ref ne, .ref pa, .ref ro, .int dy])), (pe, .inr (9, [.int 0, .ref a1, .ref a2, .ref a3, .ref a4, .ref a5, .ref a6, .ref a7, .ref a8, .ref a9]))]) hD hS hA [0, 1] rfl
  refine vx_calli (vx_runV (As := [.int p0, .int p1]) (rest := [.int 0, .ref oa]) ⟨hx, hb, hml, hown, hts⟩ (c_X8_move l hst D cy ed s.heap.size h pe ne pa ro dy a1 a2 a3 a4 a5 a6 a7 a8 a9 p0 p1) (cwV 2 hts (zx_GV mm_1316 mm_1317 mm_1318 mm_71 mm_1319) rfl rfl rfl (by decide +kernel) ⟨(Nat.le_of_ble_eq_true rfl), (Nat.le_of_ble_eq_true rfl)⟩) ⟨zx_blind, va_recv hK hPc (ci := 13) (q0 := 0) rfl rfl, zx_give hPc hK hDc hS hFc hZ hN⟩ rfl rfl hl.1 rfl (lv_room (Nat.le_of_ble_eq_true rfl)) dL_move_5 ⟨(Nat.le_of_ble_eq_true rfl), (Nat.le_of_ble_eq_true rfl)⟩) hS (fun q _ h => hFc q h) hFc (fun q _ h => hFc q h) (fun E9 ce9 q9 _ t H locs ht hvm _ hBX hz1 hk1 hS hce hcv hcl => ?_) (fun r9 u t H locs ht hvm hw hB hz1 hk1 hS => ?_)
  · have hBX : (fun E9 => E9 = "java/lang/IndexOutOfBoundsException") E9 := hBX
    obtain rfl := hBX
    refine vx_catch hown [] { startPc := 0, endPc := 10, handlerPc := 13, catchType := 21 } [({ startPc := 0, endPc := 10, handlerPc := 17, catchType := 13 } : ExceptionTableEntry)] (by rw [htb]; rfl) (fun z9 h9 => absurd h9 List.not_mem_nil) (by decide) (by decide) (hts (.classLink RL 21 "java/lang/IndexOutOfBoundsException") (zx_Gc mm_432)) (zx_cast_moved (Vm.Alike.refl _) (hN.2.2.1 _ _ (List.mem_of_getElem? (i := 475) (by decide +kernel)))) hce hcv hcl ?_
    obtain ⟨hP, hD⟩ := va_join (wr := [(oa, .inl (cy 3, 1, .inr (.inl og)))]) (w1 := []) hP hD [0, 1] [2] rfl rfl (by decide) (by decide) hk1 hFc zx_P0 zx_D0
    have hP : va_P D vwCl [(oa, .inl (cy 3, 1, .inr (.inl og)))] H := hP
    have hD : va_D A [(oa, .inl (cy 3, 1, .inr (.inl og)))] := hD
    refine W.widen (k := 1) (n := 6) (Nat.le_of_ble_eq_true rfl) (Nat.le_of_ble_eq_true rfl) ?_
    refine lv_astore (lv' := [(4, .ref q9), (0, .ref h), (1, .int p0), (2, .int p1), (3, .ref oa)]) hx hb dL_move_13 hl (by decide) rfl (fun ls hl => ?_)
    refine lv_iconst (v := 1) hx hb dL_move_15 (by decide) ?_
    have hP9 := hP.sub (ws' := []) [] rfl
    have hD9 := hD.sub (ws' := []) [] (by decide) rfl
    refine vx_ret ?_
    exact W.iret (v := 1) hx hb hr (fun t ht hW => ⟨⟨1, (), rfl, rfl, zx_fin hP9 hD9 hK ht hW⟩, hS.F ht⟩) hS.2.2 dL_move_16
  · exact hw.elim
set_option maxHeartbeats 4000000 in
set_option maxRecDepth 100000 in
theorem c_L_alarm (l : Launch) (hst : l.stackTraces = false) (D : va_G) (cy : Nat → ClassId) (ed sz : Nat) (h : Nat) (pe : Nat) (ne : Nat) (pa : Nat) (ro : Nat) (dy : Int32) (mc : Int32) (el : Nat) (oa : Nat) (og : Nat → Int64) (p0 : Int32) (p1 : Int32) : vx_Met l yL_alarm wzL_alarm ({ frames := 9, cells := 1, slots := 6, locals := 148 }) (zx_Pc D cy ed sz [.ref h, .int p0, .int p1, .ref oa] [(h, .inr (13, [.ref pe, .ref ne, .ref pa, .ref ro, .int dy])), (pa, .inr (4, [.int mc, .ref el, .int 0])), (oa, .inl (cy 3, 1, .inr (.inl og)))]) (va_Qi (fun (r9 : Int32) (u9 : Unit) => r9 = 1) (fun (u9 : Unit) (t9 : State) => zx_At D cy (va_A [(h, .inr (13, [.ref pe, .ref ne, .ref pa, .ref ro, .int dy])), (pa, .inr (4, [.int mc, .ref el, .int 0])), (oa, .inl (cy 3, 1, .inr (.inl og)))] sz) [] t9) (va_A [(h, .inr (13, [.ref pe, .ref ne, .ref pa, .ref ro, .int dy])), (pa, .inr (4, [.int mc, .ref el, .int 0])), (oa, .inl (cy 3, 1, .inr (.inl og)))] sz)) (zx_X (fun _ => False) (va_A [(h, .inr (13, [.ref pe, .ref ne, .ref pa, .ref ro, .int dy])), (pa, .inr (4, [.int mc, .ref el, .int 0])), (oa, .inl (cy 3, 1, .inr (.inl og)))] sz)) 1 6 (va_A [(h, .inr (13, [.ref pe, .ref ne, .ref pa, .ref ro, .int dy])), (pa, .inr (4, [.int mc, .ref el, .int 0])), (oa, .inl (cy 3, 1, .inr (.inl og)))] sz) := by
  refine vx_ofWH (cc := cL_alarm) (maxL := 5) (ret := (some .int)) (hh := [(0, 17, 20, 21), (0, 17, 24, 45)]) (by decide) rfl ?_
  intro p e s m args below meth c s₁ B hml hv
  have htb := vx_table (x := objectInit) B (atoms_spec (ws := wzL_alarm) B.pre _ List.mem_cons_self)
  obtain ⟨rfl, hsz, hP, hK, hD0, hZ, hN⟩ := hv
  have hx := B.exec
  have hb := B.bytes
  have hr := B.returns
  have hts := atoms_spec (ws := wzL_alarm) B.pre
  have hown : s.vm.findClass RL = some m.cls := findClass_of_methodNamed B.named
  have hlocks := B.notSynchronized
  subst hsz
  have hD := hD0.self (sz := s.heap.size)
  generalize hAe : va_A [(h, .inr (13, [.ref pe, .ref ne, .ref pa, .ref ro, .int dy])), (pa, .inr (4, [.int mc, .ref el, .int 0])), (oa, .inl (cy 3, 1, .inr (.inl og)))] s.heap.size = A at hD hZ ⊢
  have hA : ∀ q : Nat, s.heap.size ≤ q → A q := fun q h => by rw [← hAe]; exact Or.inr h
  have hS : va_S A s.heap s.heap [] := va_S.rf
  have hP : va_P D vwCl [(h, .inr (13, [.ref pe, .ref ne, .ref pa, .ref ro, .int dy])), (pa, .inr (4, [.int mc, .ref el, .int 0])), (oa, .inl (cy 3, 1, .inr (.inl og)))] s.heap := hP
  have hl := lv_entry ([.ref h, .int p0, .int p1, .ref oa]) (n := 5) (Nat.le_of_ble_eq_true rfl)
  rw [lg_entry_eq]
  generalize (lg_sl ([.ref h, .int p0, .int p1, .ref oa]) ++ List.replicate (5 - (lg_sl ([.ref h, .int p0, .int p1, .ref oa])).length) Slot.unset).toArray = ls at hl ⊢
  have hl : lv_has ls 5 [(0, .ref h), (1, .int p0), (2, .int p1), (3, .ref oa)] := hl
  refine lv_aload_n hx hb dL_alarm_0 rfl (lv_at hl 3 rfl) ?_
  refine lv_iconst (v := 0) hx hb dL_alarm_1 (by decide) ?_
  refine lv_aload_n hx hb dL_alarm_2 rfl (lv_at hl 0 rfl) ?_
  refine lv_iload_n hx hb dL_alarm_3 rfl (lv_at hl 1 rfl) ?_
  refine lv_iload_n hx hb dL_alarm_4 rfl (lv_at hl 2 rfl) ?_
  have hPc := hP.sub (ws' := [(h, .inr (13, [.ref pe, .ref ne, .ref pa, .ref ro, .int dy])), (pa, .inr (4, [.int mc, .ref el, .int 0]))]) [0, 1] rfl
  have hDc := hD.sub (ws' := [(h, .inr (13, [.ref pe, .ref ne, .ref pa, .ref ro, .int dy])), (pa, .inr (4, [.int mc, .ref el, .int 0]))]) [0, 1] (by decide) rfl
  have hFc := va_free (wc := [(h, .inr (13, [.ref pe, .ref ne, .ref pa, .ref ro, .int dy])), (pa, .inr (4, [.int mc, .ref el, .int 0]))]) hD hS hA [0, 1] rfl
  refine vx_calli (vx_runV (As := [.int p0, .int p1]) (rest := [.int 0, .ref oa]) ⟨hx, hb, hml, hown, hts⟩ (c_X8_alarm l hst D cy ed s.heap.size h pe ne pa ro dy mc el p0 p1) (cwV 2 hts (zx_GV mm_1330 mm_1331 mm_1332 mm_71 mm_1333) rfl rfl rfl (by decide +kernel) ⟨(Nat.le_of_ble_eq_true rfl), (Nat.le_of_ble_eq_true rfl)⟩) ⟨zx_blind, va_recv hK hPc (ci := 13) (q0 := 0) rfl rfl, zx_give hPc hK hDc hS hFc hZ hN⟩ rfl rfl hl.1 rfl (lv_room (Nat.le_of_ble_eq_true rfl)) dL_alarm_5 ⟨(Nat.le_of_ble_eq_true rfl), (Nat.le_of_ble_eq_true rfl)⟩) hS (fun q _ h => hFc q h) hFc (fun q _ h => hFc q h) (fun E9 ce9 q9 _ t H locs ht hvm _ hBX hz1 hk1 hS hce hcv hcl => ?_) (fun r9 u t H locs ht hvm hw hB hz1 hk1 hS => ?_)
  · have hBX : (fun E9 => E9 = "java/lang/IndexOutOfBoundsException") E9 := hBX
    obtain rfl := hBX
    refine vx_catch hown [] { startPc := 0, endPc := 17, handlerPc := 20, catchType := 21 } [({ startPc := 0, endPc := 17, handlerPc := 24, catchType := 45 } : ExceptionTableEntry)] (by rw [htb]; rfl) (fun z9 h9 => absurd h9 List.not_mem_nil) (by decide) (by decide) (hts (.classLink RL 21 "java/lang/IndexOutOfBoundsException") (zx_Gc mm_432)) (zx_cast_moved (Vm.Alike.refl _) (hN.2.2.1 _ _ (List.mem_of_getElem? (i := 475) (by decide +kernel)))) hce hcv hcl ?_
    obtain ⟨hP, hD⟩ := va_join (wr := [(oa, .inl (cy 3, 1, .inr (.inl og)))]) (w1 := []) hP hD [0, 1] [2] rfl rfl (by decide) (by decide) hk1 hFc zx_P0 zx_D0
    have hP : va_P D vwCl [(oa, .inl (cy 3, 1, .inr (.inl og)))] H := hP
    have hD : va_D A [(oa, .inl (cy 3, 1, .inr (.inl og)))] := hD
    refine W.widen (k := 1) (n := 6) (Nat.le_of_ble_eq_true rfl) (Nat.le_of_ble_eq_true rfl) ?_
    refine lv_astore (lv' := [(4, .ref q9), (0, .ref h), (1, .int p0), (2, .int p1), (3, .ref oa)]) hx hb dL_alarm_20 hl (by decide) rfl (fun ls hl => ?_)
    refine lv_iconst (v := 1) hx hb dL_alarm_22 (by decide) ?_
    have hP9 := hP.sub (ws' := []) [] rfl
    have hD9 := hD.sub (ws' := []) [] (by decide) rfl
    refine vx_ret ?_
    exact W.iret (v := 1) hx hb hr (fun t ht hW => ⟨⟨1, (), rfl, rfl, zx_fin hP9 hD9 hK ht hW⟩, hS.F ht⟩) hS.2.2 dL_alarm_23
  · exact hw.elim
set_option maxHeartbeats 4000000 in
set_option maxRecDepth 100000 in
theorem c_L_equalTo (l : Launch) (hst : l.stackTraces = false) (D : va_G) (cy : Nat → ClassId) (ed sz : Nat) (h : Nat) (pe : Nat) (ne : Nat) (pa : Nat) (ro : Nat) (dy : Int32) (mc : Int32) (el : Nat) (oa : Nat) (og : Nat → Int64) (p0 : Int32) : vx_Met l yL_equalTo wzL_equalTo ({ frames := 9, cells := 1, slots := 6, locals := 146 }) (zx_Pc D cy ed sz [.ref h, .int p0, .ref oa] [(h, .inr (13, [.ref pe, .ref ne, .ref pa, .ref ro, .int dy])), (pa, .inr (4, [.int mc, .ref el, .int 0])), (oa, .inl (cy 3, 1, .inr (.inl og)))]) (va_Qi (fun (r9 : Int32) (u9 : Unit) => r9 = 1) (fun (u9 : Unit) (t9 : State) => zx_At D cy (va_A [(h, .inr (13, [.ref pe, .ref ne, .ref pa, .ref ro, .int dy])), (pa, .inr (4, [.int mc, .ref el, .int 0])), (oa, .inl (cy 3, 1, .inr (.inl og)))] sz) [] t9) (va_A [(h, .inr (13, [.ref pe, .ref ne, .ref pa, .ref ro, .int dy])), (pa, .inr (4, [.int mc, .ref el, .int 0])), (oa, .inl (cy 3, 1, .inr (.inl og)))] sz)) (zx_X (fun _ => False) (va_A [(h, .inr (13, [.ref pe, .ref ne, .ref pa, .ref ro, .int dy])), (pa, .inr (4, [.int mc, .ref el, .int 0])), (oa, .inl (cy 3, 1, .inr (.inl og)))] sz)) 1 6 (va_A [(h, .inr (13, [.ref pe, .ref ne, .ref pa, .ref ro, .int dy])), (pa, .inr (4, [.int mc, .ref el, .int 0])), (oa, .inl (cy 3, 1, .inr (.inl og)))] sz) := by
  refine vx_ofWH (cc := cL_equalTo) (maxL := 4) (ret := (some .int)) (hh := [(0, 9, 12, 21), (0, 9, 15, 64)]) (by decide) rfl ?_
  intro p e s m args below meth c s₁ B hml hv
  have htb := vx_table (x := objectInit) B (atoms_spec (ws := wzL_equalTo) B.pre _ List.mem_cons_self)
  obtain ⟨rfl, hsz, hP, hK, hD0, hZ, hN⟩ := hv
  have hx := B.exec
  have hb := B.bytes
  have hr := B.returns
  have hts := atoms_spec (ws := wzL_equalTo) B.pre
  have hown : s.vm.findClass RL = some m.cls := findClass_of_methodNamed B.named
  have hlocks := B.notSynchronized
  subst hsz
  have hD := hD0.self (sz := s.heap.size)
  generalize hAe : va_A [(h, .inr (13, [.ref pe, .ref ne, .ref pa, .ref ro, .int dy])), (pa, .inr (4, [.int mc, .ref el, .int 0])), (oa, .inl (cy 3, 1, .inr (.inl og)))] s.heap.size = A at hD hZ ⊢
  have hA : ∀ q : Nat, s.heap.size ≤ q → A q := fun q h => by rw [← hAe]; exact Or.inr h
  have hS : va_S A s.heap s.heap [] := va_S.rf
  have hP : va_P D vwCl [(h, .inr (13, [.ref pe, .ref ne, .ref pa, .ref ro, .int dy])), (pa, .inr (4, [.int mc, .ref el, .int 0])), (oa, .inl (cy 3, 1, .inr (.inl og)))] s.heap := hP
  have hl := lv_entry ([.ref h, .int p0, .ref oa]) (n := 4) (Nat.le_of_ble_eq_true rfl)
  rw [lg_entry_eq]
  generalize (lg_sl ([.ref h, .int p0, .ref oa]) ++ List.replicate (4 - (lg_sl ([.ref h, .int p0, .ref oa])).length) Slot.unset).toArray = ls at hl ⊢
  have hl : lv_has ls 4 [(0, .ref h), (1, .int p0), (2, .ref oa)] := hl
  refine lv_aload_n hx hb dL_equalTo_0 rfl (lv_at hl 2 rfl) ?_
  refine lv_iconst (v := 0) hx hb dL_equalTo_1 (by decide) ?_
  refine lv_aload_n hx hb dL_equalTo_2 rfl (lv_at hl 0 rfl) ?_
  refine lv_iload_n hx hb dL_equalTo_3 rfl (lv_at hl 1 rfl) ?_
  have hPc := hP.sub (ws' := [(h, .inr (13, [.ref pe, .ref ne, .ref pa, .ref ro, .int dy])), (pa, .inr (4, [.int mc, .ref el, .int 0]))]) [0, 1] rfl
  have hDc := hD.sub (ws' := [(h, .inr (13, [.ref pe, .ref ne, .ref pa, .ref ro, .int dy])), (pa, .inr (4, [.int mc, .ref el, .int 0]))]) [0, 1] (by decide) rfl
  have hFc := va_free (wc := [(h, .inr (13, [.ref pe, .ref ne, .ref pa, .ref ro, .int dy])), (pa, .inr (4, [.int mc, .ref el, .int 0]))]) hD hS hA [0, 1] rfl
  refine vx_calli (vx_runV (As := [.int p0]) (rest := [.int 0, .ref oa]) ⟨hx, hb, hml, hown, hts⟩ (c_X8_equalTo l hst D cy ed s.heap.size h pe ne pa ro dy mc el p0) (cwV 1 hts (zx_GV mm_1337 mm_1338 mm_1339 mm_71 mm_1340) rfl rfl rfl (by decide +kernel) ⟨(Nat.le_of_ble_eq_true rfl), (Nat.le_of_ble_eq_true rfl)⟩) ⟨zx_blind, va_recv hK hPc (ci := 13) (q0 := 0) rfl rfl, zx_give hPc hK hDc hS hFc hZ hN⟩ rfl rfl hl.1 rfl (lv_room (Nat.le_of_ble_eq_true rfl)) dL_equalTo_4 ⟨(Nat.le_of_ble_eq_true rfl), (Nat.le_of_ble_eq_true rfl)⟩) hS (fun q _ h => hFc q h) hFc (fun q _ h => hFc q h) (fun E9 ce9 q9 _ t H locs ht hvm _ hBX hz1 hk1 hS hce hcv hcl => ?_) (fun r9 u t H locs ht hvm hw hB hz1 hk1 hS => ?_)
  · have hBX : (fun E9 => E9 = "java/lang/IndexOutOfBoundsException") E9 := hBX
    obtain rfl := hBX
    refine vx_catch hown [] { startPc := 0, endPc := 9, handlerPc := 12, catchType := 21 } [({ startPc := 0, endPc := 9, handlerPc := 15, catchType := 64 } : ExceptionTableEntry)] (by rw [htb]; rfl) (fun z9 h9 => absurd h9 List.not_mem_nil) (by decide) (by decide) (hts (.classLink RL 21 "java/lang/IndexOutOfBoundsException") (zx_Gc mm_432)) (zx_cast_moved (Vm.Alike.refl _) (hN.2.2.1 _ _ (List.mem_of_getElem? (i := 475) (by decide +kernel)))) hce hcv hcl ?_
    obtain ⟨hP, hD⟩ := va_join (wr := [(oa, .inl (cy 3, 1, .inr (.inl og)))]) (w1 := []) hP hD [0, 1] [2] rfl rfl (by decide) (by decide) hk1 hFc zx_P0 zx_D0
    have hP : va_P D vwCl [(oa, .inl (cy 3, 1, .inr (.inl og)))] H := hP
    have hD : va_D A [(oa, .inl (cy 3, 1, .inr (.inl og)))] := hD
    refine W.widen (k := 1) (n := 6) (Nat.le_of_ble_eq_true rfl) (Nat.le_of_ble_eq_true rfl) ?_
    refine lv_astore_n (lv' := [(3, .ref q9), (0, .ref h), (1, .int p0), (2, .ref oa)]) hx hb dL_equalTo_12 rfl hl (by decide) rfl (fun ls hl => ?_)
    refine lv_iconst (v := 1) hx hb dL_equalTo_13 (by decide) ?_
    have hP9 := hP.sub (ws' := []) [] rfl
    have hD9 := hD.sub (ws' := []) [] (by decide) rfl
    refine vx_ret ?_
    exact W.iret (v := 1) hx hb hr (fun t ht hW => ⟨⟨1, (), rfl, rfl, zx_fin hP9 hD9 hK ht hW⟩, hS.F ht⟩) hS.2.2 dL_equalTo_14
  · exact hw.elim
set_option maxHeartbeats 4000000 in
set_option maxRecDepth 100000 in
theorem c_L_complain (l : Launch) (hst : l.stackTraces = false) (D : va_G) (cy : Nat → ClassId) (ed sz : Nat) (h : Nat) (pe : Nat) (ne : Nat) (pa : Nat) (ro : Nat) (dy : Int32) (mc : Int32) (el : Nat) (oa : Nat) (og : Nat → Int64) (p0 : Int32) (p1 : Int32) : vx_Met l yL_complain wzL_complain ({ frames := 9, cells := 1, slots := 6, locals := 146 }) (zx_Pc D cy ed sz [.ref h, .int p0, .int p1, .ref oa] [(h, .inr (13, [.ref pe, .ref ne, .ref pa, .ref ro, .int dy])), (pa, .inr (4, [.int mc, .ref el, .int 0])), (oa, .inl (cy 3, 1, .inr (.inl og)))]) (va_Qi (fun (r9 : Int32) (u9 : Unit) => r9 = 1) (fun (u9 : Unit) (t9 : State) => zx_At D cy (va_A [(h, .inr (13, [.ref pe, .ref ne, .ref pa, .ref ro, .int dy])), (pa, .inr (4, [.int mc, .ref el, .int 0])), (oa, .inl (cy 3, 1, .inr (.inl og)))] sz) [] t9) (va_A [(h, .inr (13, [.ref pe, .ref ne, .ref pa, .ref ro, .int dy])), (pa, .inr (4, [.int mc, .ref el, .int 0])), (oa, .inl (cy 3, 1, .inr (.inl og)))] sz)) (zx_X (fun _ => False) (va_A [(h, .inr (13, [.ref pe, .ref ne, .ref pa, .ref ro, .int dy])), (pa, .inr (4, [.int mc, .ref el, .int 0])), (oa, .inl (cy 3, 1, .inr (.inl og)))] sz)) 1 6 (va_A [(h, .inr (13, [.ref pe, .ref ne, .ref pa, .ref ro, .int dy])), (pa, .inr (4, [.int mc, .ref el, .int 0])), (oa, .inl (cy 3, 1, .inr (.inl og)))] sz) := by
  refine vx_ofWH (cc := cL_complain) (maxL := 5) (ret := (some .int)) (hh := [(0, 10, 13, 21), (0, 10, 17, 45)]) (by decide) rfl ?_
  intro p e s m args below meth c s₁ B hml hv
  have htb := vx_table (x := objectInit) B (atoms_spec (ws := wzL_complain) B.pre _ List.mem_cons_self)
  obtain ⟨rfl, hsz, hP, hK, hD0, hZ, hN⟩ := hv
  have hx := B.exec
  have hb := B.bytes
  have hr := B.returns
  have hts := atoms_spec (ws := wzL_complain) B.pre
  have hown : s.vm.findClass RL = some m.cls := findClass_of_methodNamed B.named
  have hlocks := B.notSynchronized
  subst hsz
  have hD := hD0.self (sz := s.heap.size)
  generalize hAe : va_A [(h, .inr (13, [.ref pe, .ref ne, .ref pa, .ref ro, .int dy])), (pa, .inr (4, [.int mc, .ref el, .int 0])), (oa, .inl (cy 3, 1, .inr (.inl og)))] s.heap.size = A at hD hZ ⊢
  have hA : ∀ q : Nat, s.heap.size ≤ q → A q := fun q h => by rw [← hAe]; exact Or.inr h
  have hS : va_S A s.heap s.heap [] := va_S.rf
  have hP : va_P D vwCl [(h, .inr (13, [.ref pe, .ref ne, .ref pa, .ref ro, .int dy])), (pa, .inr (4, [.int mc, .ref el, .int 0])), (oa, .inl (cy 3, 1, .inr (.inl og)))] s.heap := hP
  have hl := lv_entry ([.ref h, .int p0, .int p1, .ref oa]) (n := 5) (Nat.le_of_ble_eq_true rfl)
  rw [lg_entry_eq]
  generalize (lg_sl ([.ref h, .int p0, .int p1, .ref oa]) ++ List.replicate (5 - (lg_sl ([.ref h, .int p0, .int p1, .ref oa])).length) Slot.unset).toArray = ls at hl ⊢
  have hl : lv_has ls 5 [(0, .ref h), (1, .int p0), (2, .int p1), (3, .ref oa)] := hl
  refine lv_aload_n hx hb dL_complain_0 rfl (lv_at hl 3 rfl) ?_
  refine lv_iconst (v := 0) hx hb dL_complain_1 (by decide) ?_
  refine lv_aload_n hx hb dL_complain_2 rfl (lv_at hl 0 rfl) ?_
  refine lv_iload_n hx hb dL_complain_3 rfl (lv_at hl 1 rfl) ?_
  refine lv_iload_n hx hb dL_complain_4 rfl (lv_at hl 2 rfl) ?_
  have hPc := hP.sub (ws' := [(h, .inr (13, [.ref pe, .ref ne, .ref pa, .ref ro, .int dy])), (pa, .inr (4, [.int mc, .ref el, .int 0]))]) [0, 1] rfl
  have hDc := hD.sub (ws' := [(h, .inr (13, [.ref pe, .ref ne, .ref pa, .ref ro, .int dy])), (pa, .inr (4, [.int mc, .ref el, .int 0]))]) [0, 1] (by decide) rfl
  have hFc := va_free (wc := [(h, .inr (13, [.ref pe, .ref ne, .ref pa, .ref ro, .int dy])), (pa, .inr (4, [.int mc, .ref el, .int 0]))]) hD hS hA [0, 1] rfl
  refine vx_calli (vx_runV (As := [.int p0, .int p1]) (rest := [.int 0, .ref oa]) ⟨hx, hb, hml, hown, hts⟩ (c_X8_complain l hst D cy ed s.heap.size h pe ne pa ro dy mc el p0 p1) (cwV 2 hts (zx_GV mm_1344 mm_1345 mm_1346 mm_71 mm_1347) rfl rfl rfl (by decide +kernel) ⟨(Nat.le_of_ble_eq_true rfl), (Nat.le_of_ble_eq_true rfl)⟩) ⟨zx_blind, va_recv hK hPc (ci := 13) (q0 := 0) rfl rfl, zx_give hPc hK hDc hS hFc hZ hN⟩ rfl rfl hl.1 rfl (lv_room (Nat.le_of_ble_eq_true rfl)) dL_complain_5 ⟨(Nat.le_of_ble_eq_true rfl), (Nat.le_of_ble_eq_true rfl)⟩) hS (fun q _ h => hFc q h) hFc (fun q _ h => hFc q h) (fun E9 ce9 q9 _ t H locs ht hvm _ hBX hz1 hk1 hS hce hcv hcl => ?_) (fun r9 u t H locs ht hvm hw hB hz1 hk1 hS => ?_)
  · have hBX : (fun E9 => E9 = "java/lang/IndexOutOfBoundsException") E9 := hBX
    obtain rfl := hBX
    refine vx_catch hown [] { startPc := 0, endPc := 10, handlerPc := 13, catchType := 21 } [({ startPc := 0, endPc := 10, handlerPc := 17, catchType := 45 } : ExceptionTableEntry)] (by rw [htb]; rfl) (fun z9 h9 => absurd h9 List.not_mem_nil) (by decide) (by decide) (hts (.classLink RL 21 "java/lang/IndexOutOfBoundsException") (zx_Gc mm_432)) (zx_cast_moved (Vm.Alike.refl _) (hN.2.2.1 _ _ (List.mem_of_getElem? (i := 475) (by decide +kernel)))) hce hcv hcl ?_
    obtain ⟨hP, hD⟩ := va_join (wr := [(oa, .inl (cy 3, 1, .inr (.inl og)))]) (w1 := []) hP hD [0, 1] [2] rfl rfl (by decide) (by decide) hk1 hFc zx_P0 zx_D0
    have hP : va_P D vwCl [(oa, .inl (cy 3, 1, .inr (.inl og)))] H := hP
    have hD : va_D A [(oa, .inl (cy 3, 1, .inr (.inl og)))] := hD
    refine W.widen (k := 1) (n := 6) (Nat.le_of_ble_eq_true rfl) (Nat.le_of_ble_eq_true rfl) ?_
    refine lv_astore (lv' := [(4, .ref q9), (0, .ref h), (1, .int p0), (2, .int p1), (3, .ref oa)]) hx hb dL_complain_13 hl (by decide) rfl (fun ls hl => ?_)
    refine lv_iconst (v := 1) hx hb dL_complain_15 (by decide) ?_
    have hP9 := hP.sub (ws' := []) [] rfl
    have hD9 := hD.sub (ws' := []) [] (by decide) rfl
    refine vx_ret ?_
    exact W.iret (v := 1) hx hb hr (fun t ht hW => ⟨⟨1, (), rfl, rfl, zx_fin hP9 hD9 hK ht hW⟩, hS.F ht⟩) hS.2.2 dL_complain_16
  · exact hw.elim
set_option maxHeartbeats 4000000 in
set_option maxRecDepth 100000 in
theorem c_L_seat (l : Launch) (hst : l.stackTraces = false) (D : va_G) (cy : Nat → ClassId) (ed sz : Nat) (h : Nat) (pe : Nat) (ne : Nat) (pa : Nat) (ro : Nat) (dy : Int32) (mc : Int32) (el : Nat) (oa : Nat) (og : Nat → Int64) (p0 : Int32) : vx_Met l yL_seat wzL_seat ({ frames := 9, cells := 1, slots := 6, locals := 146 }) (zx_Pc D cy ed sz [.ref h, .int p0, .ref oa] [(h, .inr (13, [.ref pe, .ref ne, .ref pa, .ref ro, .int dy])), (pa, .inr (4, [.int mc, .ref el, .int 0])), (oa, .inl (cy 3, 1, .inr (.inl og)))]) (va_Qi (fun (r9 : Int32) (u9 : Unit) => r9 = 1) (fun (u9 : Unit) (t9 : State) => zx_At D cy (va_A [(h, .inr (13, [.ref pe, .ref ne, .ref pa, .ref ro, .int dy])), (pa, .inr (4, [.int mc, .ref el, .int 0])), (oa, .inl (cy 3, 1, .inr (.inl og)))] sz) [] t9) (va_A [(h, .inr (13, [.ref pe, .ref ne, .ref pa, .ref ro, .int dy])), (pa, .inr (4, [.int mc, .ref el, .int 0])), (oa, .inl (cy 3, 1, .inr (.inl og)))] sz)) (zx_X (fun _ => False) (va_A [(h, .inr (13, [.ref pe, .ref ne, .ref pa, .ref ro, .int dy])), (pa, .inr (4, [.int mc, .ref el, .int 0])), (oa, .inl (cy 3, 1, .inr (.inl og)))] sz)) 1 6 (va_A [(h, .inr (13, [.ref pe, .ref ne, .ref pa, .ref ro, .int dy])), (pa, .inr (4, [.int mc, .ref el, .int 0])), (oa, .inl (cy 3, 1, .inr (.inl og)))] sz) := by
  refine vx_ofWH (cc := cL_seat) (maxL := 4) (ret := (some .int)) (hh := [(0, 9, 12, 21), (0, 9, 15, 45), (0, 9, 18, 64)]) (by decide) rfl ?_
  intro p e s m args below meth c s₁ B hml hv
  have htb := vx_table (x := objectInit) B (atoms_spec (ws := wzL_seat) B.pre _ List.mem_cons_self)
  obtain ⟨rfl, hsz, hP, hK, hD0, hZ, hN⟩ := hv
  have hx := B.exec
  have hb := B.bytes
  have hr := B.returns
  have hts := atoms_spec (ws := wzL_seat) B.pre
  have hown : s.vm.findClass RL = some m.cls := findClass_of_methodNamed B.named
  have hlocks := B.notSynchronized
  subst hsz
  have hD := hD0.self (sz := s.heap.size)
  generalize hAe : va_A [(h, .inr (13, [.ref pe, .ref ne, .ref pa, .ref ro, .int dy])), (pa, .inr (4, [.int mc, .ref el, .int 0])), (oa, .inl (cy 3, 1, .inr (.inl og)))] s.heap.size = A at hD hZ ⊢
  have hA : ∀ q : Nat, s.heap.size ≤ q → A q := fun q h => by rw [← hAe]; exact Or.inr h
  have hS : va_S A s.heap s.heap [] := va_S.rf
  have hP : va_P D vwCl [(h, .inr (13, [.ref pe, .ref ne, .ref pa, .ref ro, .int dy])), (pa, .inr (4, [.int mc, .ref el, .int 0])), (oa, .inl (cy 3, 1, .inr (.inl og)))] s.heap := hP
  have hl := lv_entry ([.ref h, .int p0, .ref oa]) (n := 4) (Nat.le_of_ble_eq_true rfl)
  rw [lg_entry_eq]
  generalize (lg_sl ([.ref h, .int p0, .ref oa]) ++ List.replicate (4 - (lg_sl ([.ref h, .int p0, .ref oa])).length) Slot.unset).toArray = ls at hl ⊢
  have hl : lv_has ls 4 [(0, .ref h), (1, .int p0), (2, .ref oa)] := hl
  refine lv_aload_n hx hb dL_seat_0 rfl (lv_at hl 2 rfl) ?_
  refine lv_iconst (v := 0) hx hb dL_seat_1 (by decide) ?_
  refine lv_aload_n hx hb dL_seat_2 rfl (lv_at hl 0 rfl) ?_
  refine lv_iload_n hx hb dL_seat_3 rfl (lv_at hl 1 rfl) ?_
  have hPc := hP.sub (ws' := [(h, .inr (13, [.ref pe, .ref ne, .ref pa, .ref ro, .int dy])), (pa, .inr (4, [.int mc, .ref el, .int 0]))]) [0, 1] rfl
  have hDc := hD.sub (ws' := [(h, .inr (13, [.ref pe, .ref ne, .ref pa, .ref ro, .int dy])), (pa, .inr (4, [.int mc, .ref el, .int 0]))]) [0, 1] (by decide) rfl
  have hFc := va_free (wc := [(h, .inr (13, [.ref pe, .ref ne, .ref pa, .ref ro, .int dy])), (pa, .inr (4, [.int mc, .ref el, .int 0]))]) hD hS hA [0, 1] rfl
  refine vx_calli (vx_runV (As := [.int p0]) (rest := [.int 0, .ref oa]) ⟨hx, hb, hml, hown, hts⟩ (c_X8_seat l hst D cy ed s.heap.size h pe ne pa ro dy mc el p0) (cwV 1 hts (zx_GV mm_1351 mm_1352 mm_1353 mm_71 mm_1354) rfl rfl rfl (by decide +kernel) ⟨(Nat.le_of_ble_eq_true rfl), (Nat.le_of_ble_eq_true rfl)⟩) ⟨zx_blind, va_recv hK hPc (ci := 13) (q0 := 0) rfl rfl, zx_give hPc hK hDc hS hFc hZ hN⟩ rfl rfl hl.1 rfl (lv_room (Nat.le_of_ble_eq_true rfl)) dL_seat_4 ⟨(Nat.le_of_ble_eq_true rfl), (Nat.le_of_ble_eq_true rfl)⟩) hS (fun q _ h => hFc q h) hFc (fun q _ h => hFc q h) (fun E9 ce9 q9 _ t H locs ht hvm _ hBX hz1 hk1 hS hce hcv hcl => ?_) (fun r9 u t H locs ht hvm hw hB hz1 hk1 hS => ?_)
  · have hBX : (fun E9 => E9 = "java/lang/IndexOutOfBoundsException") E9 := hBX
    obtain rfl := hBX
    refine vx_catch hown [] { startPc := 0, endPc := 9, handlerPc := 12, catchType := 21 } [({ startPc := 0, endPc := 9, handlerPc := 15, catchType := 45 } : ExceptionTableEntry), ({ startPc := 0, endPc := 9, handlerPc := 18, catchType := 64 } : ExceptionTableEntry)] (by rw [htb]; rfl) (fun z9 h9 => absurd h9 List.not_mem_nil) (by decide) (by decide) (hts (.classLink RL 21 "java/lang/IndexOutOfBoundsException") (zx_Gc mm_432)) (zx_cast_moved (Vm.Alike.refl _) (hN.2.2.1 _ _ (List.mem_of_getElem? (i := 475) (by decide +kernel)))) hce hcv hcl ?_
    obtain ⟨hP, hD⟩ := va_join (wr := [(oa, .inl (cy 3, 1, .inr (.inl og)))]) (w1 := []) hP hD [0, 1] [2] rfl rfl (by decide) (by decide) hk1 hFc zx_P0 zx_D0
    have hP : va_P D vwCl [(oa, .inl (cy 3, 1, .inr (.inl og)))] H := hP
    have hD : va_D A [(oa, .inl (cy 3, 1, .inr (.inl og)))] := hD
    refine W.widen (k := 1) (n := 6) (Nat.le_of_ble_eq_true rfl) (Nat.le_of_ble_eq_true rfl) ?_
    refine lv_astore_n (lv' := [(3, .ref q9), (0, .ref h), (1, .int p0), (2, .ref oa)]) hx hb dL_seat_12 rfl hl (by decide) rfl (fun ls hl => ?_)
    refine lv_iconst (v := 1) hx hb dL_seat_13 (by decide) ?_
    have hP9 := hP.sub (ws' := []) [] rfl
    have hD9 := hD.sub (ws' := []) [] (by decide) rfl
    refine vx_ret ?_
    exact W.iret (v := 1) hx hb hr (fun t ht hW => ⟨⟨1, (), rfl, rfl, zx_fin hP9 hD9 hK ht hW⟩, hS.F ht⟩) hS.2.2 dL_seat_14
  · exact hw.elim
set_option maxHeartbeats 4000000 in
set_option maxRecDepth 100000 in
theorem c_L_vote (l : Launch) (hst : l.stackTraces = false) (D : va_G) (cy : Nat → ClassId) (ed sz : Nat) (h : Nat) (pe : Nat) (ne : Nat) (pa : Nat) (ro : Nat) (dy : Int32) (mc : Int32) (el : Nat) (oa : Nat) (og : Nat → Int64) (p0 : Int32) (p1 : Int32) (p2 : Int32) : vx_Met l yL_vote wzL_vote ({ frames := 9, cells := 1, slots := 6, locals := 147 }) (zx_Pc D cy ed sz [.ref h, .int p0, .int p1, .int p2, .ref oa] [(h, .inr (13, [.ref pe, .ref ne, .ref pa, .ref ro, .int dy])), (pa, .inr (4, [.int mc, .ref el, .int 0])), (oa, .inl (cy 3, 1, .inr (.inl og)))]) (va_Qi (fun (r9 : Int32) (u9 : Unit) => r9 = 1) (fun (u9 : Unit) (t9 : State) => zx_At D cy (va_A [(h, .inr (13, [.ref pe, .ref ne, .ref pa, .ref ro, .int dy])), (pa, .inr (4, [.int mc, .ref el, .int 0])), (oa, .inl (cy 3, 1, .inr (.inl og)))] sz) [] t9) (va_A [(h, .inr (13, [.ref pe, .ref ne, .ref pa, .ref ro, .int dy])), (pa, .inr (4, [.int mc, .ref el, .int 0])), (oa, .inl (cy 3, 1, .inr (.inl og)))] sz)) (zx_X (fun _ => False) (va_A [(h, .inr (13, [.ref pe, .ref ne, .ref pa, .ref ro, .int dy])), (pa, .inr (4, [.int mc, .ref el, .int 0])), (oa, .inl (cy 3, 1, .inr (.inl og)))] sz)) 1 6 (va_A [(h, .inr (13, [.ref pe, .ref ne, .ref pa, .ref ro, .int dy])), (pa, .inr (4, [.int mc, .ref el, .int 0])), (oa, .inl (cy 3, 1, .inr (.inl og)))] sz) := by
  refine vx_ofWH (cc := cL_vote) (maxL := 6) (ret := (some .int)) (hh := [(0, 12, 15, 21), (0, 12, 19, 45)]) (by decide) rfl ?_
  intro p e s m args below meth c s₁ B hml hv
  have htb := vx_table (x := objectInit) B (atoms_spec (ws := wzL_vote) B.pre _ List.mem_cons_self)
  obtain ⟨rfl, hsz, hP, hK, hD0, hZ, hN⟩ := hv
  have hx := B.exec
  have hb := B.bytes
  have hr := B.returns
  have hts := atoms_spec (ws := wzL_vote) B.pre
  have hown : s.vm.findClass RL = some m.cls := findClass_of_methodNamed B.named
  have hlocks := B.notSynchronized
  subst hsz
  have hD := hD0.self (sz := s.heap.size)
  generalize hAe : va_A [(h, .inr (13, [.ref pe, .ref ne, .ref pa, .ref ro, .int dy])), (pa, .inr (4, [.int mc, .ref el, .int 0])), (oa, .inl (cy 3, 1, .inr (.inl og)))] s.heap.size = A at hD hZ ⊢
  have hA : ∀ q : Nat, s.heap.size ≤ q → A q := fun q h => by rw [← hAe]; exact Or.inr h
  have hS : va_S A s.heap s.heap [] := va_S.rf
  have hP : va_P D vwCl [(h, .inr (13, [.ref pe, .ref ne, .ref pa, .ref ro, .int dy])), (pa, .inr (4, [.int mc, .ref el, .int 0])), (oa, .inl (cy 3, 1, .inr (.inl og)))] s.heap := hP
  have hl := lv_entry ([.ref h, .int p0, .int p1, .int p2, .ref oa]) (n := 6) (Nat.le_of_ble_eq_true rfl)
  rw [lg_entry_eq]
  generalize (lg_sl ([.ref h, .int p0, .int p1, .int p2, .ref oa]) ++ List.replicate (6 - (lg_sl ([.ref h, .int p0, .int p1, .int p2, .ref oa])).length) Slot.unset).toArray = ls at hl ⊢
  have hl : lv_has ls 6 [(0, .ref h), (1, .int p0), (2, .int p1), (3, .int p2), (4, .ref oa)] := hl
  refine lv_aload hx hb dL_vote_0 (lv_at hl 4 rfl) ?_
  refine lv_iconst (v := 0) hx hb dL_vote_2 (by decide) ?_
  refine lv_aload_n hx hb dL_vote_3 rfl (lv_at hl 0 rfl) ?_
  refine lv_iload_n hx hb dL_vote_4 rfl (lv_at hl 1 rfl) ?_
  refine lv_iload_n hx hb dL_vote_5 rfl (lv_at hl 2 rfl) ?_
  refine lv_iload_n hx hb dL_vote_6 rfl (lv_at hl 3 rfl) ?_
  have hPc := hP.sub (ws' := [(h, .inr (13, [.ref pe, .ref ne, .ref pa, .ref ro, .int dy])), (pa, .inr (4, [.int mc, .ref el, .int 0]))]) [0, 1] rfl
  have hDc := hD.sub (ws' := [(h, .inr (13, [.ref pe, .ref ne, .ref pa, .ref ro, .int dy])), (pa, .inr (4, [.int mc, .ref el, .int 0]))]) [0, 1] (by decide) rfl
  have hFc := va_free (wc := [(h, .inr (13, [.ref pe, .ref ne, .ref pa, .ref ro, .int dy])), (pa, .inr (4, [.int mc, .ref el, .int 0]))]) hD hS hA [0, 1] rfl
  refine vx_calli (vx_runV (As := [.int p0, .int p1, .int p2]) (rest := [.int 0, .ref oa]) ⟨hx, hb, hml, hown, hts⟩ (c_X8_vote l hst D cy ed s.heap.size h pe ne pa ro dy mc el p0 p1 p2) (cwV 3 hts (zx_GV mm_1378 mm_1379 mm_1380 mm_71 mm_1381) rfl rfl rfl (by decide +kernel) ⟨(Nat.le_of_ble_eq_true rfl), (Nat.le_of_ble_eq_true rfl)⟩) ⟨zx_blind, va_recv hK hPc (ci := 13) (q0 := 0) rfl rfl, zx_give hPc hK hDc hS hFc hZ hN⟩ rfl rfl hl.1 rfl (lv_room (Nat.le_of_ble_eq_true rfl)) dL_vote_7 ⟨(Nat.le_of_ble_eq_true rfl), (Nat.le_of_ble_eq_true rfl)⟩) hS (fun q _ h => hFc q h) hFc (fun q _ h => hFc q h) (fun E9 ce9 q9 _ t H locs ht hvm _ hBX hz1 hk1 hS hce hcv hcl => ?_) (fun r9 u t H locs ht hvm hw hB hz1 hk1 hS => ?_)
  · have hBX : (fun E9 => E9 = "java/lang/IndexOutOfBoundsException") E9 := hBX
    obtain rfl := hBX
    refine vx_catch hown [] { startPc := 0, endPc := 12, handlerPc := 15, catchType := 21 } [({ startPc := 0, endPc := 12, handlerPc := 19, catchType := 45 } : ExceptionTableEntry)] (by rw [htb]; rfl) (fun z9 h9 => absurd h9 List.not_mem_nil) (by decide) (by decide) (hts (.classLink RL 21 "java/lang/IndexOutOfBoundsException") (zx_Gc mm_432)) (zx_cast_moved (Vm.Alike.refl _) (hN.2.2.1 _ _ (List.mem_of_getElem? (i := 475) (by decide +kernel)))) hce hcv hcl ?_
    obtain ⟨hP, hD⟩ := va_join (wr := [(oa, .inl (cy 3, 1, .inr (.inl og)))]) (w1 := []) hP hD [0, 1] [2] rfl rfl (by decide) (by decide) hk1 hFc zx_P0 zx_D0
    have hP : va_P D vwCl [(oa, .inl (cy 3, 1, .inr (.inl og)))] H := hP
    have hD : va_D A [(oa, .inl (cy 3, 1, .inr (.inl og)))] := hD
    refine W.widen (k := 1) (n := 6) (Nat.le_of_ble_eq_true rfl) (Nat.le_of_ble_eq_true rfl) ?_
    refine lv_astore (lv' := [(5, .ref q9), (0, .ref h), (1, .int p0), (2, .int p1), (3, .int p2), (4, .ref oa)]) hx hb dL_vote_15 hl (by decide) rfl (fun ls hl => ?_)
    refine lv_iconst (v := 1) hx hb dL_vote_17 (by decide) ?_
    have hP9 := hP.sub (ws' := []) [] rfl
    have hD9 := hD.sub (ws' := []) [] (by decide) rfl
    refine vx_ret ?_
    exact W.iret (v := 1) hx hb hr (fun t ht hW => ⟨⟨1, (), rfl, rfl, zx_fin hP9 hD9 hK ht hW⟩, hS.F ht⟩) hS.2.2 dL_vote_18
  · exact hw.elim
set_option maxHeartbeats 4000000 in
set_option maxRecDepth 100000 in
theorem c_L_sees (l : Launch) (hst : l.stackTraces = false) (D : va_G) (cy : Nat → ClassId) (ed sz : Nat) (h : Nat) (pe : Nat) (ne : Nat) (pa : Nat) (ro : Nat) (dy : Int32) (a1 : Nat) (a2 : Nat) (a3 : Nat) (a4 : Nat) (a5 : Nat) (a6 : Nat) (a7 : Nat) (a8 : Nat) (a9 : Nat) (oa : Nat) (og : Nat → Int64) (p0 : Int32) (p1 : Int32) (p2 : Int32) : vx_Met l yL_sees wzL_sees ({ frames := 8, cells := 1, slots := 6, locals := 126 }) (zx_Pc D cy ed sz [.ref h, .int p0, .int p1, .int p2, .ref oa] [(h, .inr (13, [.ref pe, .ref ne, .ref pa, .ref ro, .int dy])), (pe, .inr (9, [.int 0, .ref a1, .ref a2, .ref a3, .ref a4, .ref a5, .ref a6, .ref a7, .ref a8, .ref a9])), (oa, .inl (cy 3, 1, .inr (.inl og)))]) (va_Qi (fun (r9 : Int32) (u9 : Unit) => r9 = 1) (fun (u9 : Unit) (t9 : State) => zx_At D cy (va_A [(h, .inr (13, [.ref pe, .ref ne, .ref pa, .ref ro, .int dy])), (pe, .inr (9, [.int 0, .ref a1, .ref a2, .ref a3, .ref a4, .ref a5, .ref a6, .ref a7, .ref a8, .ref a9])), (oa, .inl (cy 3, 1, .inr (.inl og)))] sz) [] t9) (va_A [(h, .inr (13, [.ref pe, .ref ne, .ref pa, .ref ro, .int dy])), (pe, .inr (9, [.int 0, .ref a1, .ref a2, .ref a3, .ref a4, .ref a5, .ref a6, .ref a7, .ref a8, .ref a9])), (oa, .inl (cy 3, 1, .inr (.inl og)))] sz)) (zx_X (fun _ => False) (va_A [(h, .inr (13, [.ref pe, .ref ne, .ref pa, .ref ro, .int dy])), (pe, .inr (9, [.int 0, .ref a1, .ref a2, .ref a3, .ref a4, .ref a5, .ref a6, .ref a7, .ref a8, .ref a9])), (oa, .inl (cy 3, 1, .inr (.inl og)))] sz)) 1 6 (va_A [(h, .inr (13, [.ref pe, .ref ne, .ref pa, .ref ro, .int dy])), (pe, .inr (9, [.int 0, .ref a1, .ref a2, .ref a3, .ref a4, .ref a5, .ref a6, .ref a7, .ref a8, .ref a9])), (oa, .inl (cy 3, 1, .inr (.inl og)))] sz) := by
  refine vx_ofWH (cc := cL_sees) (maxL := 6) (ret := (some .int)) (hh := [(0, 19, 22, 21)]) (by decide) rfl ?_
  intro p e s m args below meth c s₁ B hml hv
  have htb := vx_table (x := objectInit) B (atoms_spec (ws := wzL_sees) B.pre _ List.mem_cons_self)
  obtain ⟨rfl, hsz, hP, hK, hD0, hZ, hN⟩ := hv
  have hx := B.exec
  have hb := B.bytes
  have hr := B.returns
  have hts := atoms_spec (ws := wzL_sees) B.pre
  have hown : s.vm.findClass RL = some m.cls := findClass_of_methodNamed B.named
  have hlocks := B.notSynchronized
  subst hsz
  have hD := hD0.self (sz := s.heap.size)
  generalize hAe : va_A [(h, .inr (13, [.ref pe, .ref ne, .ref pa, .ref ro, .int dy])), (pe, .inr (9, [.int 0, .ref a1, .ref a2, .ref a3, .ref a4, .ref a5, .ref a6, .ref a7, .ref a8, .ref a9])), (oa, .inl (cy 3, 1, .inr (.inl og)))] s.heap.size = A at hD hZ ⊢
  have hA : ∀ q : Nat, s.heap.size ≤ q → A q := fun q h => by rw [← hAe]; exact Or.inr h
  have hS : va_S A s.heap s.heap [] := va_S.rf
  have hP : va_P D vwCl [(h, .inr (13, [.ref pe, .ref ne, .ref pa, .ref ro, .int dy])), (pe, .inr (9, [.int 0, .ref a1, .ref a2, .ref a3, .ref a4, .ref a5, .ref a6, .ref a7, .ref a8, .ref a9])), (oa, .inl (cy 3, 1, .inr (.inl og)))] s.heap := hP
  have hl := lv_entry ([.ref h, .int p0, .int p1, .int p2, .ref oa]) (n := 6) (Nat.le_of_ble_eq_true rfl)
  rw [lg_entry_eq]
  generalize (lg_sl ([.ref h, .int p0, .int p1, .int p2, .ref oa]) ++ List.replicate (6 - (lg_sl ([.ref h, .int p0, .int p1, .int p2, .ref oa])).length) Slot.unset).toArray = ls at hl ⊢
  have hl : lv_has ls 6 [(0, .ref h), (1, .int p0), (2, .int p1), (3, .int p2), (4, .ref oa)] := hl
  refine lv_aload hx hb dL_sees_0 (lv_at hl 4 rfl) ?_
  refine lv_iconst (v := 0) hx hb dL_sees_2 (by decide) ?_
  refine lv_aload_n hx hb dL_sees_3 rfl (lv_at hl 0 rfl) ?_
  refine lv_iload_n hx hb dL_sees_4 rfl (lv_at hl 1 rfl) ?_
  refine lv_iload_n hx hb dL_sees_5 rfl (lv_at hl 2 rfl) ?_
  refine lv_iload_n hx hb dL_sees_6 rfl (lv_at hl 3 rfl) ?_
  have hPc := hP.sub (ws' := [(h, .inr (13, [.ref pe, .ref ne, .ref pa, .ref ro, .int dy])), (pe, .inr (9, [.int 0, .ref a1, .ref a2, .ref a3, .ref a4, .ref a5, .ref a6, .ref a7, .ref a8, .ref a9]))]) [0, 1] rfl
  have hDc := hD.sub (ws' := [(h, .inr (13, [.ref pe, .ref ne, .ref pa, .ref ro, .int dy])), (pe, .inr (9, [.int 0, .ref a1, .ref a2, .ref a3, .ref a4, .ref a5, .ref a6, .ref a7, .ref a8, .ref a9]))]) [0, 1] (by decide) rfl
  have hFc := va_free (wc := [(h, .inr (13, [.ref pe, .ref ne, .ref pa, .ref ro, .int dy])), (pe, .inr (9, [.int 0, .ref a1, .ref a2, .ref a3, .ref a4, .ref a5, .ref a6, .ref a7, .ref a8, .ref a9]))]) hD hS hA [0, 1] rfl
  refine vx_calli (vx_runV (As := [.int p0, .int p1, .int p2]) (rest := [.int 0, .ref oa]) ⟨hx, hb, hml, hown, hts⟩ (c_X8_sees l hst D cy ed s.heap.size h pe ne pa ro dy a1 a2 a3 a4 a5 a6 a7 a8 a9 p0 p1 p2) (cwV 3 hts (zx_GV mm_1397 mm_1398 mm_1399 mm_71 mm_1400) rfl rfl rfl (by decide +kernel) ⟨(Nat.le_of_ble_eq_true rfl), (Nat.le_of_ble_eq_true rfl)⟩) ⟨zx_blind, va_recv hK hPc (ci := 13) (q0 := 0) rfl rfl, zx_give hPc hK hDc hS hFc hZ hN⟩ rfl rfl hl.1 rfl (lv_room (Nat.le_of_ble_eq_true rfl)) dL_sees_7 ⟨(Nat.le_of_ble_eq_true rfl), (Nat.le_of_ble_eq_true rfl)⟩) hS (fun q _ h => hFc q h) hFc (fun q _ h => hFc q h) (fun E9 ce9 q9 _ t H locs ht hvm _ hBX hz1 hk1 hS hce hcv hcl => ?_) (fun r9 u t H locs ht hvm hw hB hz1 hk1 hS => ?_)
  · have hBX : (fun E9 => E9 = "java/lang/IndexOutOfBoundsException") E9 := hBX
    obtain rfl := hBX
    refine vx_catch hown [] { startPc := 0, endPc := 19, handlerPc := 22, catchType := 21 } [] (by rw [htb]; rfl) (fun z9 h9 => absurd h9 List.not_mem_nil) (by decide) (by decide) (hts (.classLink RL 21 "java/lang/IndexOutOfBoundsException") (zx_Gc mm_432)) (zx_cast_moved (Vm.Alike.refl _) (hN.2.2.1 _ _ (List.mem_of_getElem? (i := 475) (by decide +kernel)))) hce hcv hcl ?_
    obtain ⟨hP, hD⟩ := va_join (wr := [(oa, .inl (cy 3, 1, .inr (.inl og)))]) (w1 := []) hP hD [0, 1] [2] rfl rfl (by decide) (by decide) hk1 hFc zx_P0 zx_D0
    have hP : va_P D vwCl [(oa, .inl (cy 3, 1, .inr (.inl og)))] H := hP
    have hD : va_D A [(oa, .inl (cy 3, 1, .inr (.inl og)))] := hD
    refine W.widen (k := 1) (n := 6) (Nat.le_of_ble_eq_true rfl) (Nat.le_of_ble_eq_true rfl) ?_
    refine lv_astore (lv' := [(5, .ref q9), (0, .ref h), (1, .int p0), (2, .int p1), (3, .int p2), (4, .ref oa)]) hx hb dL_sees_22 hl (by decide) rfl (fun ls hl => ?_)
    refine lv_iconst (v := 1) hx hb dL_sees_24 (by decide) ?_
    have hP9 := hP.sub (ws' := []) [] rfl
    have hD9 := hD.sub (ws' := []) [] (by decide) rfl
    refine vx_ret ?_
    exact W.iret (v := 1) hx hb hr (fun t ht hW => ⟨⟨1, (), rfl, rfl, zx_fin hP9 hD9 hK ht hW⟩, hS.F ht⟩) hS.2.2 dL_sees_25
  · exact hw.elim
set_option maxHeartbeats 4000000 in
set_option maxRecDepth 100000 in
theorem c_L_correct (l : Launch) (hst : l.stackTraces = false) (D : va_G) (cy : Nat → ClassId) (ed sz : Nat) (h : Nat) (pe : Nat) (ne : Nat) (pa : Nat) (ro : Nat) (dy : Int32) (mc : Int32) (el : Nat) (oa : Nat) (og : Nat → Int64) (p0 : Int32) (p1 : Int32) : vx_Met l yL_correct wzL_correct ({ frames := 9, cells := 1, slots := 6, locals := 146 }) (zx_Pc D cy ed sz [.ref h, .int p0, .int p1, .ref oa] [(h, .inr (13, [.ref pe, .ref ne, .ref pa, .ref ro, .int dy])), (pa, .inr (4, [.int mc, .ref el, .int 0])), (oa, .inl (cy 3, 1, .inr (.inl og)))]) (va_Qi (fun (r9 : Int32) (u9 : Unit) => r9 = 1) (fun (u9 : Unit) (t9 : State) => zx_At D cy (va_A [(h, .inr (13, [.ref pe, .ref ne, .ref pa, .ref ro, .int dy])), (pa, .inr (4, [.int mc, .ref el, .int 0])), (oa, .inl (cy 3, 1, .inr (.inl og)))] sz) [] t9) (va_A [(h, .inr (13, [.ref pe, .ref ne, .ref pa, .ref ro, .int dy])), (pa, .inr (4, [.int mc, .ref el, .int 0])), (oa, .inl (cy 3, 1, .inr (.inl og)))] sz)) (zx_X (fun _ => False) (va_A [(h, .inr (13, [.ref pe, .ref ne, .ref pa, .ref ro, .int dy])), (pa, .inr (4, [.int mc, .ref el, .int 0])), (oa, .inl (cy 3, 1, .inr (.inl og)))] sz)) 1 6 (va_A [(h, .inr (13, [.ref pe, .ref ne, .ref pa, .ref ro, .int dy])), (pa, .inr (4, [.int mc, .ref el, .int 0])), (oa, .inl (cy 3, 1, .inr (.inl og)))] sz) := by
  refine vx_ofWH (cc := cL_correct) (maxL := 5) (ret := (some .int)) (hh := [(0, 10, 13, 21), (0, 10, 17, 13), (0, 10, 21, 45)]) (by decide) rfl ?_
  intro p e s m args below meth c s₁ B hml hv
  have htb := vx_table (x := objectInit) B (atoms_spec (ws := wzL_correct) B.pre _ List.mem_cons_self)
  obtain ⟨rfl, hsz, hP, hK, hD0, hZ, hN⟩ := hv
  have hx := B.exec
  have hb := B.bytes
  have hr := B.returns
  have hts := atoms_spec (ws := wzL_correct) B.pre
  have hown : s.vm.findClass RL = some m.cls := findClass_of_methodNamed B.named
  have hlocks := B.notSynchronized
  subst hsz
  have hD := hD0.self (sz := s.heap.size)
  generalize hAe : va_A [(h, .inr (13, [.ref pe, .ref ne, .ref pa, .ref ro, .int dy])), (pa, .inr (4, [.int mc, .ref el, .int 0])), (oa, .inl (cy 3, 1, .inr (.inl og)))] s.heap.size = A at hD hZ ⊢
  have hA : ∀ q : Nat, s.heap.size ≤ q → A q := fun q h => by rw [← hAe]; exact Or.inr h
  have hS : va_S A s.heap s.heap [] := va_S.rf
  have hP : va_P D vwCl [(h, .inr (13, [.ref pe, .ref ne, .ref pa, .ref ro, .int dy])), (pa, .inr (4, [.int mc, .ref el, .int 0])), (oa, .inl (cy 3, 1, .inr (.inl og)))] s.heap := hP
  have hl := lv_entry ([.ref h, .int p0, .int p1, .ref oa]) (n := 5) (Nat.le_of_ble_eq_true rfl)
  rw [lg_entry_eq]
  generalize (lg_sl ([.ref h, .int p0, .int p1, .ref oa]) ++ List.replicate (5 - (lg_sl ([.ref h, .int p0, .int p1, .ref oa])).length) Slot.unset).toArray = ls at hl ⊢
  have hl : lv_has ls 5 [(0, .ref h), (1, .int p0), (2, .int p1), (3, .ref oa)] := hl
  refine lv_aload_n hx hb dL_correct_0 rfl (lv_at hl 3 rfl) ?_
  refine lv_iconst (v := 0) hx hb dL_correct_1 (by decide) ?_
  refine lv_aload_n hx hb dL_correct_2 rfl (lv_at hl 0 rfl) ?_
  refine lv_iload_n hx hb dL_correct_3 rfl (lv_at hl 1 rfl) ?_
  refine lv_iload_n hx hb dL_correct_4 rfl (lv_at hl 2 rfl) ?_
  have hPc := hP.sub (ws' := [(h, .inr (13, [.ref pe, .ref ne, .ref pa, .ref ro, .int dy])), (pa, .inr (4, [.int mc, .ref el, .int 0]))]) [0, 1] rfl
  have hDc := hD.sub (ws' := [(h, .inr (13, [.ref pe, .ref ne, .ref pa, .ref ro, .int dy])), (pa, .inr (4, [.int mc, .ref el, .int 0]))]) [0, 1] (by decide) rfl
  have hFc := va_free (wc := [(h, .inr (13, [.ref pe, .ref ne, .ref pa, .ref ro, .int dy])), (pa, .inr (4, [.int mc, .ref el, .int 0]))]) hD hS hA [0, 1] rfl
  refine vx_calli (vx_runV (As := [.int p0, .int p1]) (rest := [.int 0, .ref oa]) ⟨hx, hb, hml, hown, hts⟩ (c_X8_correct l hst D cy ed s.heap.size h pe ne pa ro dy mc el p0 p1) (cwV 2 hts (zx_GV mm_1426 mm_1427 mm_1428 mm_71 mm_1429) rfl rfl rfl (by decide +kernel) ⟨(Nat.le_of_ble_eq_true rfl), (Nat.le_of_ble_eq_true rfl)⟩) ⟨zx_blind, va_recv hK hPc (ci := 13) (q0 := 0) rfl rfl, zx_give hPc hK hDc hS hFc hZ hN⟩ rfl rfl hl.1 rfl (lv_room (Nat.le_of_ble_eq_true rfl)) dL_correct_5 ⟨(Nat.le_of_ble_eq_true rfl), (Nat.le_of_ble_eq_true rfl)⟩) hS (fun q _ h => hFc q h) hFc (fun q _ h => hFc q h) (fun E9 ce9 q9 _ t H locs ht hvm _ hBX hz1 hk1 hS hce hcv hcl => ?_) (fun r9 u t H locs ht hvm hw hB hz1 hk1 hS => ?_)
  · have hBX : (fun E9 => E9 = "java/lang/IndexOutOfBoundsException") E9 := hBX
    obtain rfl := hBX
    refine vx_catch hown [] { startPc := 0, endPc := 10, handlerPc := 13, catchType := 21 } [({ startPc := 0, endPc := 10, handlerPc := 17, catchType := 13 } : ExceptionTableEntry), ({ startPc := 0, endPc := 10, handlerPc := 21, catchType := 45 } : ExceptionTableEntry)] (by rw [htb]; rfl) (fun z9 h9 => absurd h9 List.not_mem_nil) (by decide) (by decide) (hts (.classLink RL 21 "java/lang/IndexOutOfBoundsException") (zx_Gc mm_432)) (zx_cast_moved (Vm.Alike.refl _) (hN.2.2.1 _ _ (List.mem_of_getElem? (i := 475) (by decide +kernel)))) hce hcv hcl ?_
    obtain ⟨hP, hD⟩ := va_join (wr := [(oa, .inl (cy 3, 1, .inr (.inl og)))]) (w1 := []) hP hD [0, 1] [2] rfl rfl (by decide) (by decide) hk1 hFc zx_P0 zx_D0
    have hP : va_P D vwCl [(oa, .inl (cy 3, 1, .inr (.inl og)))] H := hP
    have hD : va_D A [(oa, .inl (cy 3, 1, .inr (.inl og)))] := hD
    refine W.widen (k := 1) (n := 6) (Nat.le_of_ble_eq_true rfl) (Nat.le_of_ble_eq_true rfl) ?_
    refine lv_astore (lv' := [(4, .ref q9), (0, .ref h), (1, .int p0), (2, .int p1), (3, .ref oa)]) hx hb dL_correct_13 hl (by decide) rfl (fun ls hl => ?_)
    refine lv_iconst (v := 1) hx hb dL_correct_15 (by decide) ?_
    have hP9 := hP.sub (ws' := []) [] rfl
    have hD9 := hD.sub (ws' := []) [] (by decide) rfl
    refine vx_ret ?_
    exact W.iret (v := 1) hx hb hr (fun t ht hW => ⟨⟨1, (), rfl, rfl, zx_fin hP9 hD9 hK ht hW⟩, hS.F ht⟩) hS.2.2 dL_correct_16
  · exact hw.elim
set_option maxHeartbeats 4000000 in
set_option maxRecDepth 100000 in
theorem c_L_dropCitation (l : Launch) (hst : l.stackTraces = false) (D : va_G) (cy : Nat → ClassId) (ed sz : Nat) (h : Nat) (pe : Nat) (ne : Nat) (pa : Nat) (ro : Nat) (dy : Int32) (mc : Int32) (el : Nat) (oa : Nat) (og : Nat → Int64) (p0 : Int32) (p1 : Int32) : vx_Met l yL_dropCitation wzL_dropCitation ({ frames := 9, cells := 1, slots := 6, locals := 146 }) (zx_Pc D cy ed sz [.ref h, .int p0, .int p1, .ref oa] [(h, .inr (13, [.ref pe, .ref ne, .ref pa, .ref ro, .int dy])), (pa, .inr (4, [.int mc, .ref el, .int 0])), (oa, .inl (cy 3, 1, .inr (.inl og)))]) (va_Qi (fun (r9 : Int32) (u9 : Unit) => r9 = 1) (fun (u9 : Unit) (t9 : State) => zx_At D cy (va_A [(h, .inr (13, [.ref pe, .ref ne, .ref pa, .ref ro, .int dy])), (pa, .inr (4, [.int mc, .ref el, .int 0])), (oa, .inl (cy 3, 1, .inr (.inl og)))] sz) [] t9) (va_A [(h, .inr (13, [.ref pe, .ref ne, .ref pa, .ref ro, .int dy])), (pa, .inr (4, [.int mc, .ref el, .int 0])), (oa, .inl (cy 3, 1, .inr (.inl og)))] sz)) (zx_X (fun _ => False) (va_A [(h, .inr (13, [.ref pe, .ref ne, .ref pa, .ref ro, .int dy])), (pa, .inr (4, [.int mc, .ref el, .int 0])), (oa, .inl (cy 3, 1, .inr (.inl og)))] sz)) 1 6 (va_A [(h, .inr (13, [.ref pe, .ref ne, .ref pa, .ref ro, .int dy])), (pa, .inr (4, [.int mc, .ref el, .int 0])), (oa, .inl (cy 3, 1, .inr (.inl og)))] sz) := by
  refine vx_ofWH (cc := cL_dropCitation) (maxL := 5) (ret := (some .int)) (hh := [(0, 10, 13, 21), (0, 10, 17, 45)]) (by decide) rfl ?_
  intro p e s m args below meth c s₁ B hml hv
  have htb := vx_table (x := objectInit) B (atoms_spec (ws := wzL_dropCitation) B.pre _ List.mem_cons_self)
  obtain ⟨rfl, hsz, hP, hK, hD0, hZ, hN⟩ := hv
  have hx := B.exec
  have hb := B.bytes
  have hr := B.returns
  have hts := atoms_spec (ws := wzL_dropCitation) B.pre
  have hown : s.vm.findClass RL = some m.cls := findClass_of_methodNamed B.named
  have hlocks := B.notSynchronized
  subst hsz
  have hD := hD0.self (sz := s.heap.size)
  generalize hAe : va_A [(h, .inr (13, [.ref pe, .ref ne, .ref pa, .ref ro, .int dy])), (pa, .inr (4, [.int mc, .ref el, .int 0])), (oa, .inl (cy 3, 1, .inr (.inl og)))] s.heap.size = A at hD hZ ⊢
  have hA : ∀ q : Nat, s.heap.size ≤ q → A q := fun q h => by rw [← hAe]; exact Or.inr h
  have hS : va_S A s.heap s.heap [] := va_S.rf
  have hP : va_P D vwCl [(h, .inr (13, [.ref pe, .ref ne, .ref pa, .ref ro, .int dy])), (pa, .inr (4, [.int mc, .ref el, .int 0])), (oa, .inl (cy 3, 1, .inr (.inl og)))] s.heap := hP
  have hl := lv_entry ([.ref h, .int p0, .int p1, .ref oa]) (n := 5) (Nat.le_of_ble_eq_true rfl)
  rw [lg_entry_eq]
  generalize (lg_sl ([.ref h, .int p0, .int p1, .ref oa]) ++ List.replicate (5 - (lg_sl ([.ref h, .int p0, .int p1, .ref oa])).length) Slot.unset).toArray = ls at hl ⊢
  have hl : lv_has ls 5 [(0, .ref h), (1, .int p0), (2, .int p1), (3, .ref oa)] := hl
  refine lv_aload_n hx hb dL_dropCitation_0 rfl (lv_at hl 3 rfl) ?_
  refine lv_iconst (v := 0) hx hb dL_dropCitation_1 (by decide) ?_
  refine lv_aload_n hx hb dL_dropCitation_2 rfl (lv_at hl 0 rfl) ?_
  refine lv_iload_n hx hb dL_dropCitation_3 rfl (lv_at hl 1 rfl) ?_
  refine lv_iload_n hx hb dL_dropCitation_4 rfl (lv_at hl 2 rfl) ?_
  have hPc := hP.sub (ws' := [(h, .inr (13, [.ref pe, .ref ne, .ref pa, .ref ro, .int dy])), (pa, .inr (4, [.int mc, .ref el, .int 0]))]) [0, 1] rfl
  have hDc := hD.sub (ws' := [(h, .inr (13, [.ref pe, .ref ne, .ref pa, .ref ro, .int dy])), (pa, .inr (4, [.int mc, .ref el, .int 0]))]) [0, 1] (by decide) rfl
  have hFc := va_free (wc := [(h, .inr (13, [.ref pe, .ref ne, .ref pa, .ref ro, .int dy])), (pa, .inr (4, [.int mc, .ref el, .int 0]))]) hD hS hA [0, 1] rfl
  refine vx_calli (vx_runV (As := [.int p0, .int p1]) (rest := [.int 0, .ref oa]) ⟨hx, hb, hml, hown, hts⟩ (c_X8_dropCitation l hst D cy ed s.heap.size h pe ne pa ro dy mc el p0 p1) (cwV 2 hts (zx_GV mm_1433 mm_1434 mm_1435 mm_71 mm_1436) rfl rfl rfl (by decide +kernel) ⟨(Nat.le_of_ble_eq_true rfl), (Nat.le_of_ble_eq_true rfl)⟩) ⟨zx_blind, va_recv hK hPc (ci := 13) (q0 := 0) rfl rfl, zx_give hPc hK hDc hS hFc hZ hN⟩ rfl rfl hl.1 rfl (lv_room (Nat.le_of_ble_eq_true rfl)) dL_dropCitation_5 ⟨(Nat.le_of_ble_eq_true rfl), (Nat.le_of_ble_eq_true rfl)⟩) hS (fun q _ h => hFc q h) hFc (fun q _ h => hFc q h) (fun E9 ce9 q9 _ t H locs ht hvm _ hBX hz1 hk1 hS hce hcv hcl => ?_) (fun r9 u t H locs ht hvm hw hB hz1 hk1 hS => ?_)
  · have hBX : (fun E9 => E9 = "java/lang/IndexOutOfBoundsException") E9 := hBX
    obtain rfl := hBX
    refine vx_catch hown [] { startPc := 0, endPc := 10, handlerPc := 13, catchType := 21 } [({ startPc := 0, endPc := 10, handlerPc := 17, catchType := 45 } : ExceptionTableEntry)] (by rw [htb]; rfl) (fun z9 h9 => absurd h9 List.not_mem_nil) (by decide) (by decide) (hts (.classLink RL 21 "java/lang/IndexOutOfBoundsException") (zx_Gc mm_432)) (zx_cast_moved (Vm.Alike.refl _) (hN.2.2.1 _ _ (List.mem_of_getElem? (i := 475) (by decide +kernel)))) hce hcv hcl ?_
    obtain ⟨hP, hD⟩ := va_join (wr := [(oa, .inl (cy 3, 1, .inr (.inl og)))]) (w1 := []) hP hD [0, 1] [2] rfl rfl (by decide) (by decide) hk1 hFc zx_P0 zx_D0
    have hP : va_P D vwCl [(oa, .inl (cy 3, 1, .inr (.inl og)))] H := hP
    have hD : va_D A [(oa, .inl (cy 3, 1, .inr (.inl og)))] := hD
    refine W.widen (k := 1) (n := 6) (Nat.le_of_ble_eq_true rfl) (Nat.le_of_ble_eq_true rfl) ?_
    refine lv_astore (lv' := [(4, .ref q9), (0, .ref h), (1, .int p0), (2, .int p1), (3, .ref oa)]) hx hb dL_dropCitation_13 hl (by decide) rfl (fun ls hl => ?_)
    refine lv_iconst (v := 1) hx hb dL_dropCitation_15 (by decide) ?_
    have hP9 := hP.sub (ws' := []) [] rfl
    have hD9 := hD.sub (ws' := []) [] (by decide) rfl
    refine vx_ret ?_
    exact W.iret (v := 1) hx hb hr (fun t ht hW => ⟨⟨1, (), rfl, rfl, zx_fin hP9 hD9 hK ht hW⟩, hS.F ht⟩) hS.2.2 dL_dropCitation_16
  · exact hw.elim
set_option maxHeartbeats 4000000 in
set_option maxRecDepth 100000 in
theorem c_L_publicVersion (l : Launch) (hst : l.stackTraces = false) (D : va_G) (cy : Nat → ClassId) (ed sz : Nat) (h : Nat) (pe : Nat) (ne : Nat) (pa : Nat) (ro : Nat) (dy : Int32) (mc : Int32) (el : Nat) (oa : Nat) (og : Nat → Int64) (p0 : Int32) : vx_Met l yL_publicVersion wzL_publicVersion ({ frames := 9, cells := 1, slots := 6, locals := 145 }) (zx_Pc D cy ed sz [.ref h, .int p0, .ref oa] [(h, .inr (13, [.ref pe, .ref ne, .ref pa, .ref ro, .int dy])), (pa, .inr (4, [.int mc, .ref el, .int 0])), (oa, .inl (cy 3, 1, .inr (.inl og)))]) (va_Qi (fun (r9 : Int32) (u9 : Unit) => r9 = 1) (fun (u9 : Unit) (t9 : State) => zx_At D cy (va_A [(h, .inr (13, [.ref pe, .ref ne, .ref pa, .ref ro, .int dy])), (pa, .inr (4, [.int mc, .ref el, .int 0])), (oa, .inl (cy 3, 1, .inr (.inl og)))] sz) [] t9) (va_A [(h, .inr (13, [.ref pe, .ref ne, .ref pa, .ref ro, .int dy])), (pa, .inr (4, [.int mc, .ref el, .int 0])), (oa, .inl (cy 3, 1, .inr (.inl og)))] sz)) (zx_X (fun _ => False) (va_A [(h, .inr (13, [.ref pe, .ref ne, .ref pa, .ref ro, .int dy])), (pa, .inr (4, [.int mc, .ref el, .int 0])), (oa, .inl (cy 3, 1, .inr (.inl og)))] sz)) 1 6 (va_A [(h, .inr (13, [.ref pe, .ref ne, .ref pa, .ref ro, .int dy])), (pa, .inr (4, [.int mc, .ref el, .int 0])), (oa, .inl (cy 3, 1, .inr (.inl og)))] sz) := by
  refine vx_ofWH (cc := cL_publicVersion) (maxL := 4) (ret := (some .int)) (hh := [(0, 9, 12, 21), (0, 9, 15, 64)]) (by decide) rfl ?_
  intro p e s m args below meth c s₁ B hml hv
  have htb := vx_table (x := objectInit) B (atoms_spec (ws := wzL_publicVersion) B.pre _ List.mem_cons_self)
  obtain ⟨rfl, hsz, hP, hK, hD0, hZ, hN⟩ := hv
  have hx := B.exec
  have hb := B.bytes
  have hr := B.returns
  have hts := atoms_spec (ws := wzL_publicVersion) B.pre
  have hown : s.vm.findClass RL = some m.cls := findClass_of_methodNamed B.named
  have hlocks := B.notSynchronized
  subst hsz
  have hD := hD0.self (sz := s.heap.size)
  generalize hAe : va_A [(h, .inr (13, [.ref pe, .ref ne, .ref pa, .ref ro, .int dy])), (pa, .inr (4, [.int mc, .ref el, .int 0])), (oa, .inl (cy 3, 1, .inr (.inl og)))] s.heap.size = A at hD hZ ⊢
  have hA : ∀ q : Nat, s.heap.size ≤ q → A q := fun q h => by rw [← hAe]; exact Or.inr h
  have hS : va_S A s.heap s.heap [] := va_S.rf
  have hP : va_P D vwCl [(h, .inr (13, [.ref pe, .ref ne, .ref pa, .ref ro, .int dy])), (pa, .inr (4, [.int mc, .ref el, .int 0])), (oa, .inl (cy 3, 1, .inr (.inl og)))] s.heap := hP
  have hl := lv_entry ([.ref h, .int p0, .ref oa]) (n := 4) (Nat.le_of_ble_eq_true rfl)
  rw [lg_entry_eq]
  generalize (lg_sl ([.ref h, .int p0, .ref oa]) ++ List.replicate (4 - (lg_sl ([.ref h, .int p0, .ref oa])).length) Slot.unset).toArray = ls at hl ⊢
  have hl : lv_has ls 4 [(0, .ref h), (1, .int p0), (2, .ref oa)] := hl
  refine lv_aload_n hx hb dL_publicVersion_0 rfl (lv_at hl 2 rfl) ?_
  refine lv_iconst (v := 0) hx hb dL_publicVersion_1 (by decide) ?_
  refine lv_aload_n hx hb dL_publicVersion_2 rfl (lv_at hl 0 rfl) ?_
  refine lv_iload_n hx hb dL_publicVersion_3 rfl (lv_at hl 1 rfl) ?_
  have hPc := hP.sub (ws' := [(h, .inr (13, [.ref pe, .ref ne, .ref pa, .ref ro, .int dy])), (pa, .inr (4, [.int mc, .ref el, .int 0]))]) [0, 1] rfl
  have hDc := hD.sub (ws' := [(h, .inr (13, [.ref pe, .ref ne, .ref pa, .ref ro, .int dy])), (pa, .inr (4, [.int mc, .ref el, .int 0]))]) [0, 1] (by decide) rfl
  have hFc := va_free (wc := [(h, .inr (13, [.ref pe, .ref ne, .ref pa, .ref ro, .int dy])), (pa, .inr (4, [.int mc, .ref el, .int 0]))]) hD hS hA [0, 1] rfl
  refine vx_calli (vx_runV (As := [.int p0]) (rest := [.int 0, .ref oa]) ⟨hx, hb, hml, hown, hts⟩ (c_X8_publicVersion l hst D cy ed s.heap.size h pe ne pa ro dy mc el p0) (cwV 1 hts (zx_GV mm_1440 mm_1441 mm_1442 mm_71 mm_1443) rfl rfl rfl (by decide +kernel) ⟨(Nat.le_of_ble_eq_true rfl), (Nat.le_of_ble_eq_true rfl)⟩) ⟨zx_blind, va_recv hK hPc (ci := 13) (q0 := 0) rfl rfl, zx_give hPc hK hDc hS hFc hZ hN⟩ rfl rfl hl.1 rfl (lv_room (Nat.le_of_ble_eq_true rfl)) dL_publicVersion_4 ⟨(Nat.le_of_ble_eq_true rfl), (Nat.le_of_ble_eq_true rfl)⟩) hS (fun q _ h => hFc q h) hFc (fun q _ h => hFc q h) (fun E9 ce9 q9 _ t H locs ht hvm _ hBX hz1 hk1 hS hce hcv hcl => ?_) (fun r9 u t H locs ht hvm hw hB hz1 hk1 hS => ?_)
  · have hBX : (fun E9 => E9 = "java/lang/IndexOutOfBoundsException") E9 := hBX
    obtain rfl := hBX
    refine vx_catch hown [] { startPc := 0, endPc := 9, handlerPc := 12, catchType := 21 } [({ startPc := 0, endPc := 9, handlerPc := 15, catchType := 64 } : ExceptionTableEntry)] (by rw [htb]; rfl) (fun z9 h9 => absurd h9 List.not_mem_nil) (by decide) (by decide) (hts (.classLink RL 21 "java/lang/IndexOutOfBoundsException") (zx_Gc mm_432)) (zx_cast_moved (Vm.Alike.refl _) (hN.2.2.1 _ _ (List.mem_of_getElem? (i := 475) (by decide +kernel)))) hce hcv hcl ?_
    obtain ⟨hP, hD⟩ := va_join (wr := [(oa, .inl (cy 3, 1, .inr (.inl og)))]) (w1 := []) hP hD [0, 1] [2] rfl rfl (by decide) (by decide) hk1 hFc zx_P0 zx_D0
    have hP : va_P D vwCl [(oa, .inl (cy 3, 1, .inr (.inl og)))] H := hP
    have hD : va_D A [(oa, .inl (cy 3, 1, .inr (.inl og)))] := hD
    refine W.widen (k := 1) (n := 6) (Nat.le_of_ble_eq_true rfl) (Nat.le_of_ble_eq_true rfl) ?_
    refine lv_astore_n (lv' := [(3, .ref q9), (0, .ref h), (1, .int p0), (2, .ref oa)]) hx hb dL_publicVersion_12 rfl hl (by decide) rfl (fun ls hl => ?_)
    refine lv_iconst (v := 1) hx hb dL_publicVersion_13 (by decide) ?_
    have hP9 := hP.sub (ws' := []) [] rfl
    have hD9 := hD.sub (ws' := []) [] (by decide) rfl
    refine vx_ret ?_
    exact W.iret (v := 1) hx hb hr (fun t ht hW => ⟨⟨1, (), rfl, rfl, zx_fin hP9 hD9 hK ht hW⟩, hS.F ht⟩) hS.2.2 dL_publicVersion_14
  · exact hw.elim
set_option maxHeartbeats 4000000 in
set_option maxRecDepth 100000 in
theorem c_L_index (l : Launch) (hst : l.stackTraces = false) (D : va_G) (cy : Nat → ClassId) (ed sz : Nat) (h : Nat) (pe : Nat) (ne : Nat) (pa : Nat) (ro : Nat) (dy : Int32) (a1 : Nat) (a2 : Nat) (a3 : Nat) (a4 : Nat) (a5 : Nat) (a6 : Nat) (a7 : Nat) (a8 : Nat) (a9 : Nat) (oa : Nat) (og : Nat → Int64) (p0 : Int32) : vx_Met l yL_index wzL_index ({ frames := 8, cells := 1, slots := 6, locals := 125 }) (zx_Pc D cy ed sz [.ref h, .int p0, .ref oa] [(h, .inr (13, [.ref pe, .ref ne, .ref pa, .ref ro, .int dy])), (pe, .inr (9, [.int 0, .ref a1, .ref a2, .ref a3, .ref a4, .ref a5, .ref a6, .ref a7, .ref a8, .ref a9])), (oa, .inl (cy 3, 1, .inr (.inl og)))]) (va_Qi (fun (r9 : Int32) (u9 : Unit) => r9 = 1) (fun (u9 : Unit) (t9 : State) => zx_At D cy (va_A [(h, .inr (13, [.ref pe, .ref ne, .ref pa, .ref ro, .int dy])), (pe, .inr (9, [.int 0, .ref a1, .ref a2, .ref a3, .ref a4, .ref a5, .ref a6, .ref a7, .ref a8, .ref a9])), (oa, .inl (cy 3, 1, .inr (.inl og)))] sz) [] t9) (va_A [(h, .inr (13, [.ref pe, .ref ne, .ref pa, .ref ro, .int dy])), (pe, .inr (9, [.int 0, .ref a1, .ref a2, .ref a3, .ref a4, .ref a5, .ref a6, .ref a7, .ref a8, .ref a9])), (oa, .inl (cy 3, 1, .inr (.inl og)))] sz)) (zx_X (fun _ => False) (va_A [(h, .inr (13, [.ref pe, .ref ne, .ref pa, .ref ro, .int dy])), (pe, .inr (9, [.int 0, .ref a1, .ref a2, .ref a3, .ref a4, .ref a5, .ref a6, .ref a7, .ref a8, .ref a9])), (oa, .inl (cy 3, 1, .inr (.inl og)))] sz)) 1 6 (va_A [(h, .inr (13, [.ref pe, .ref ne, .ref pa, .ref ro, .int dy])), (pe, .inr (9, [.int 0, .ref a1, .ref a2, .ref a3, .ref a4, .ref a5, .ref a6, .ref a7, .ref a8, .ref a9])), (oa, .inl (cy 3, 1, .inr (.inl og)))] sz) := by
  refine vx_ofWH (cc := cL_index) (maxL := 4) (ret := (some .int)) (hh := [(0, 9, 12, 21)]) (by decide) rfl ?_
  intro p e s m args below meth c s₁ B hml hv
  have htb := vx_table (x := objectInit) B (atoms_spec (ws := wzL_index) B.pre _ List.mem_cons_self)
  obtain ⟨rfl, hsz, hP, hK, hD0, hZ, hN⟩ := hv
  have hx := B.exec
  have hb := B.bytes
  have hr := B.returns
  have hts := atoms_spec (ws := wzL_index) B.pre
  have hown : s.vm.findClass RL = some m.cls := findClass_of_methodNamed B.named
  have hlocks := B.notSynchronized
  subst hsz
  have hD := hD0.self (sz := s.heap.size)
  generalize hAe : va_A [(h, .inr (13, [.ref pe, .ref ne, .ref pa, .ref ro, .int dy])), (pe, .inr (9, [.int 0, .ref a1, .ref a2, .ref a3, .ref a4, .ref a5, .ref a6, .ref a7, .ref a8, .ref a9])), (oa, .inl (cy 3, 1, .inr (.inl og)))] s.heap.size = A at hD hZ ⊢
  have hA : ∀ q : Nat, s.heap.size ≤ q → A q := fun q h => by rw [← hAe]; exact Or.inr h
  have hS : va_S A s.heap s.heap [] := va_S.rf
  have hP : va_P D vwCl [(h, .inr (13, [.ref pe, .ref ne, .ref pa, .ref ro, .int dy])), (pe, .inr (9, [.int 0, .ref a1, .ref a2, .ref a3, .ref a4, .ref a5, .ref a6, .ref a7, .ref a8, .ref a9])), (oa, .inl (cy 3, 1, .inr (.inl og)))] s.heap := hP
  have hl := lv_entry ([.ref h, .int p0, .ref oa]) (n := 4) (Nat.le_of_ble_eq_true rfl)
  rw [lg_entry_eq]
  generalize (lg_sl ([.ref h, .int p0, .ref oa]) ++ List.replicate (4 - (lg_sl ([.ref h, .int p0, .ref oa])).length) Slot.unset).toArray = ls at hl ⊢
  have hl : lv_has ls 4 [(0, .ref h), (1, .int p0), (2, .ref oa)] := hl
  refine lv_aload_n hx hb dL_index_0 rfl (lv_at hl 2 rfl) ?_
  refine lv_iconst (v := 0) hx hb dL_index_1 (by decide) ?_
  refine lv_aload_n hx hb dL_index_2 rfl (lv_at hl 0 rfl) ?_
  refine lv_iload_n hx hb dL_index_3 rfl (lv_at hl 1 rfl) ?_
  have hPc := hP.sub (ws' := [(h, .inr (13, [.ref pe, .ref ne, .ref pa, .ref ro, .int dy])), (pe, .inr (9, [.int 0, .ref a1, .ref a2, .ref a3, .ref a4, .ref a5, .ref a6, .ref a7, .ref a8, .ref a9]))]) [0, 1] rfl
  have hDc := hD.sub (ws' := [(h, .inr (13, [.ref pe, .ref ne, .ref pa, .ref ro, .int dy])), (pe, .inr (9, [.int 0, .ref a1, .ref a2, .ref a3, .ref a4, .ref a5, .ref a6, .ref a7, .ref a8, .ref a9]))]) [0, 1] (by decide) rfl
  have hFc := va_free (wc := [(h, .inr (13, [.ref pe, .ref ne, .ref pa, .ref ro, .int dy])), (pe, .inr (9, [.int 0, .ref a1, .ref a2, .ref a3, .ref a4, .ref a5, .ref a6, .ref a7, .ref a8, .ref a9]))]) hD hS hA [0, 1] rfl
  refine vx_calli (vx_runV (As := [.int p0]) (rest := [.int 0, .ref oa]) ⟨hx, hb, hml, hown, hts⟩ (c_X8_index l hst D cy ed s.heap.size h pe ne pa ro dy a1 a2 a3 a4 a5 a6 a7 a8 a9 p0) (cwV 1 hts (zx_GV mm_1447 mm_1448 mm_1449 mm_71 mm_1450) rfl rfl rfl (by decide +kernel) ⟨(Nat.le_of_ble_eq_true rfl), (Nat.le_of_ble_eq_true rfl)⟩) ⟨zx_blind, va_recv hK hPc (ci := 13) (q0 := 0) rfl rfl, zx_give hPc hK hDc hS hFc hZ hN⟩ rfl rfl hl.1 rfl (lv_room (Nat.le_of_ble_eq_true rfl)) dL_index_4 ⟨(Nat.le_of_ble_eq_true rfl), (Nat.le_of_ble_eq_true rfl)⟩) hS (fun q _ h => hFc q h) hFc (fun q _ h => hFc q h) (fun E9 ce9 q9 _ t H locs ht hvm _ hBX hz1 hk1 hS hce hcv hcl => ?_) (fun r9 u t H locs ht hvm hw hB hz1 hk1 hS => ?_)
  · have hBX : (fun E9 => E9 = "java/lang/IndexOutOfBoundsException") E9 := hBX
    obtain rfl := hBX
    refine vx_catch hown [] { startPc := 0, endPc := 9, handlerPc := 12, catchType := 21 } [] (by rw [htb]; rfl) (fun z9 h9 => absurd h9 List.not_mem_nil) (by decide) (by decide) (hts (.classLink RL 21 "java/lang/IndexOutOfBoundsException") (zx_Gc mm_432)) (zx_cast_moved (Vm.Alike.refl _) (hN.2.2.1 _ _ (List.mem_of_getElem? (i := 475) (by decide +kernel)))) hce hcv hcl ?_
    obtain ⟨hP, hD⟩ := va_join (wr := [(oa, .inl (cy 3, 1, .inr (.inl og)))]) (w1 := []) hP hD [0, 1] [2] rfl rfl (by decide) (by decide) hk1 hFc zx_P0 zx_D0
    have hP : va_P D vwCl [(oa, .inl (cy 3, 1, .inr (.inl og)))] H := hP
    have hD : va_D A [(oa, .inl (cy 3, 1, .inr (.inl og)))] := hD
    refine W.widen (k := 1) (n := 6) (Nat.le_of_ble_eq_true rfl) (Nat.le_of_ble_eq_true rfl) ?_
    refine lv_astore_n (lv' := [(3, .ref q9), (0, .ref h), (1, .int p0), (2, .ref oa)]) hx hb dL_index_12 rfl hl (by decide) rfl (fun ls hl => ?_)
    refine lv_iconst (v := 1) hx hb dL_index_13 (by decide) ?_
    have hP9 := hP.sub (ws' := []) [] rfl
    have hD9 := hD.sub (ws' := []) [] (by decide) rfl
    refine vx_ret ?_
    exact W.iret (v := 1) hx hb hr (fun t ht hW => ⟨⟨1, (), rfl, rfl, zx_fin hP9 hD9 hK ht hW⟩, hS.F ht⟩) hS.2.2 dL_index_14
  · exact hw.elim
set_option maxHeartbeats 4000000 in
set_option maxRecDepth 100000 in
theorem c_L_circle (l : Launch) (hst : l.stackTraces = false) (D : va_G) (cy : Nat → ClassId) (ed sz : Nat) (h : Nat) (pe : Nat) (ne : Nat) (pa : Nat) (ro : Nat) (dy : Int32) (a1 : Nat) (a2 : Nat) (a3 : Nat) (a4 : Nat) (a5 : Nat) (a6 : Nat) (a7 : Nat) (a8 : Nat) (a9 : Nat) (oa : Nat) (og : Nat → Int64) (p0 : Int32) : vx_Met l yL_circle wzL_circle ({ frames := 8, cells := 1, slots := 6, locals := 125 }) (zx_Pc D cy ed sz [.ref h, .int p0, .ref oa] [(h, .inr (13, [.ref pe, .ref ne, .ref pa, .ref ro, .int dy])), (pe, .inr (9, [.int 0, .ref a1, .ref a2, .ref a3, .ref a4, .ref a5, .ref a6, .ref a7, .ref a8, .ref a9])), (oa, .inl (cy 3, 1, .inr (.inl og)))]) (va_Qi (fun (r9 : Int32) (u9 : Unit) => r9 = 1) (fun (u9 : Unit) (t9 : State) => zx_At D cy (va_A [(h, .inr (13, [.ref pe, .ref ne, .ref pa, .ref ro, .int dy])), (pe, .inr (9, [.int 0, .ref a1, .ref a2, .ref a3, .ref a4, .ref a5, .ref a6, .ref a7, .ref a8, .ref a9])), (oa, .inl (cy 3, 1, .inr (.inl og)))] sz) [] t9) (va_A [(h, .inr (13, [.ref pe, .ref ne, .ref pa, .ref ro, .int dy])), (pe, .inr (9, [.int 0, .ref a1, .ref a2, .ref a3, .ref a4, .ref a5, .ref a6, .ref a7, .ref a8, .ref a9])), (oa, .inl (cy 3, 1, .inr (.inl og)))] sz)) (zx_X (fun _ => False) (va_A [(h, .inr (13, [.ref pe, .ref ne, .ref pa, .ref ro, .int dy])), (pe, .inr (9, [.int 0, .ref a1, .ref a2, .ref a3, .ref a4, .ref a5, .ref a6, .ref a7, .ref a8, .ref a9])), (oa, .inl (cy 3, 1, .inr (.inl og)))] sz)) 1 6 (va_A [(h, .inr (13, [.ref pe, .ref ne, .ref pa, .ref ro, .int dy])), (pe, .inr (9, [.int 0, .ref a1, .ref a2, .ref a3, .ref a4, .ref a5, .ref a6, .ref a7, .ref a8, .ref a9])), (oa, .inl (cy 3, 1, .inr (.inl og)))] sz) := by
  refine vx_ofWH (cc := cL_circle) (maxL := 4) (ret := (some .int)) (hh := [(0, 9, 12, 21)]) (by decide) rfl ?_
  intro p e s m args below meth c s₁ B hml hv
  have htb := vx_table (x := objectInit) B (atoms_spec (ws := wzL_circle) B.pre _ List.mem_cons_self)
  obtain ⟨rfl, hsz, hP, hK, hD0, hZ, hN⟩ := hv
  have hx := B.exec
  have hb := B.bytes
  have hr := B.returns
  have hts := atoms_spec (ws := wzL_circle) B.pre
  have hown : s.vm.findClass RL = some m.cls := findClass_of_methodNamed B.named
  have hlocks := B.notSynchronized
  subst hsz
  have hD := hD0.self (sz := s.heap.size)
  generalize hAe : va_A [(h, .inr (13, [.ref pe, .ref ne, .ref pa, .ref ro, .int dy])), (pe, .inr (9, [.int 0, .ref a1, .ref a2, .ref a3, .ref a4, .ref a5, .ref a6, .ref a7, .ref a8, .ref a9])), (oa, .inl (cy 3, 1, .inr (.inl og)))] s.heap.size = A at hD hZ ⊢
  have hA : ∀ q : Nat, s.heap.size ≤ q → A q := fun q h => by rw [← hAe]; exact Or.inr h
  have hS : va_S A s.heap s.heap [] := va_S.rf
  have hP : va_P D vwCl [(h, .inr (13, [.ref pe, .ref ne, .ref pa, .ref ro, .int dy])), (pe, .inr (9, [.int 0, .ref a1, .ref a2, .ref a3, .ref a4, .ref a5, .ref a6, .ref a7, .ref a8, .ref a9])), (oa, .inl (cy 3, 1, .inr (.inl og)))] s.heap := hP
  have hl := lv_entry ([.ref h, .int p0, .ref oa]) (n := 4) (Nat.le_of_ble_eq_true rfl)
  rw [lg_entry_eq]
  generalize (lg_sl ([.ref h, .int p0, .ref oa]) ++ List.replicate (4 - (lg_sl ([.ref h, .int p0, .ref oa])).length) Slot.unset).toArray = ls at hl ⊢
  have hl : lv_has ls 4 [(0, .ref h), (1, .int p0), (2, .ref oa)] := hl
  refine lv_aload_n hx hb dL_circle_0 rfl (lv_at hl 2 rfl) ?_
  refine lv_iconst (v := 0) hx hb dL_circle_1 (by decide) ?_
  refine lv_aload_n hx hb dL_circle_2 rfl (lv_at hl 0 rfl) ?_
  refine lv_iload_n hx hb dL_circle_3 rfl (lv_at hl 1 rfl) ?_
  have hPc := hP.sub (ws' := [(h, .inr (13, [.ref pe, .ref ne, .ref pa, .ref ro, .int dy])), (pe, .inr (9, [.int 0, .ref a1, .ref a2, .ref a3, .ref a4, .ref a5, .ref a6, .ref a7, .ref a8, .ref a9]))]) [0, 1] rfl
  have hDc := hD.sub (ws' := [(h, .inr (13, [.ref pe, .ref ne, .ref pa, .ref ro, .int dy])), (pe, .inr (9, [.int 0, .ref a1, .ref a2, .ref a3, .ref a4, .ref a5, .ref a6, .ref a7, .ref a8, .ref a9]))]) [0, 1] (by decide) rfl
  have hFc := va_free (wc := [(h, .inr (13, [.ref pe, .ref ne, .ref pa, .ref ro, .int dy])), (pe, .inr (9, [.int 0, .ref a1, .ref a2, .ref a3, .ref a4, .ref a5, .ref a6, .ref a7, .ref a8, .ref a9]))]) hD hS hA [0, 1] rfl
  refine vx_calli (vx_runV (As := [.int p0]) (rest := [.int 0, .ref oa]) ⟨hx, hb, hml, hown, hts⟩ (c_X8_circle l hst D cy ed s.heap.size h pe ne pa ro dy a1 a2 a3 a4 a5 a6 a7 a8 a9 p0) (cwV 1 hts (zx_GV mm_1497 mm_1498 mm_1499 mm_71 mm_1500) rfl rfl rfl (by decide +kernel) ⟨(Nat.le_of_ble_eq_true rfl), (Nat.le_of_ble_eq_true rfl)⟩) ⟨zx_blind, va_recv hK hPc (ci := 13) (q0 := 0) rfl rfl, zx_give hPc hK hDc hS hFc hZ hN⟩ rfl rfl hl.1 rfl (lv_room (Nat.le_of_ble_eq_true rfl)) dL_circle_4 ⟨(Nat.le_of_ble_eq_true rfl), (Nat.le_of_ble_eq_true rfl)⟩) hS (fun q _ h => hFc q h) hFc (fun q _ h => hFc q h) (fun E9 ce9 q9 _ t H locs ht hvm _ hBX hz1 hk1 hS hce hcv hcl => ?_) (fun r9 u t H locs ht hvm hw hB hz1 hk1 hS => ?_)
  · have hBX : (fun E9 => E9 = "java/lang/IndexOutOfBoundsException") E9 := hBX
    obtain rfl := hBX
    refine vx_catch hown [] { startPc := 0, endPc := 9, handlerPc := 12, catchType := 21 } [] (by rw [htb]; rfl) (fun z9 h9 => absurd h9 List.not_mem_nil) (by decide) (by decide) (hts (.classLink RL 21 "java/lang/IndexOutOfBoundsException") (zx_Gc mm_432)) (zx_cast_moved (Vm.Alike.refl _) (hN.2.2.1 _ _ (List.mem_of_getElem? (i := 475) (by decide +kernel)))) hce hcv hcl ?_
    obtain ⟨hP, hD⟩ := va_join (wr := [(oa, .inl (cy 3, 1, .inr (.inl og)))]) (w1 := []) hP hD [0, 1] [2] rfl rfl (by decide) (by decide) hk1 hFc zx_P0 zx_D0
    have hP : va_P D vwCl [(oa, .inl (cy 3, 1, .inr (.inl og)))] H := hP
    have hD : va_D A [(oa, .inl (cy 3, 1, .inr (.inl og)))] := hD
    refine W.widen (k := 1) (n := 6) (Nat.le_of_ble_eq_true rfl) (Nat.le_of_ble_eq_true rfl) ?_
    refine lv_astore_n (lv' := [(3, .ref q9), (0, .ref h), (1, .int p0), (2, .ref oa)]) hx hb dL_circle_12 rfl hl (by decide) rfl (fun ls hl => ?_)
    refine lv_iconst (v := 1) hx hb dL_circle_13 (by decide) ?_
    have hP9 := hP.sub (ws' := []) [] rfl
    have hD9 := hD.sub (ws' := []) [] (by decide) rfl
    refine vx_ret ?_
    exact W.iret (v := 1) hx hb hr (fun t ht hW => ⟨⟨1, (), rfl, rfl, zx_fin hP9 hD9 hK ht hW⟩, hS.F ht⟩) hS.2.2 dL_circle_14
  · exact hw.elim
set_option maxHeartbeats 4000000 in
set_option maxRecDepth 100000 in
theorem c_L_state (l : Launch) (hst : l.stackTraces = false) (D : va_G) (cy : Nat → ClassId) (ed sz : Nat) (h : Nat) (pe : Nat) (ne : Nat) (pa : Nat) (ro : Nat) (dy : Int32) (mc : Int32) (el : Nat) (oa : Nat) (og : Nat → Int64) (p0 : Int32) : vx_Met l yL_state wzL_state ({ frames := 9, cells := 1, slots := 6, locals := 145 }) (zx_Pc D cy ed sz [.ref h, .int p0, .ref oa] [(h, .inr (13, [.ref pe, .ref ne, .ref pa, .ref ro, .int dy])), (pa, .inr (4, [.int mc, .ref el, .int 0])), (oa, .inl (cy 3, 1, .inr (.inl og)))]) (va_Qi (fun (r9 : Int32) (u9 : Unit) => r9 = 1) (fun (u9 : Unit) (t9 : State) => zx_At D cy (va_A [(h, .inr (13, [.ref pe, .ref ne, .ref pa, .ref ro, .int dy])), (pa, .inr (4, [.int mc, .ref el, .int 0])), (oa, .inl (cy 3, 1, .inr (.inl og)))] sz) [] t9) (va_A [(h, .inr (13, [.ref pe, .ref ne, .ref pa, .ref ro, .int dy])), (pa, .inr (4, [.int mc, .ref el, .int 0])), (oa, .inl (cy 3, 1, .inr (.inl og)))] sz)) (zx_X (fun _ => False) (va_A [(h, .inr (13, [.ref pe, .ref ne, .ref pa, .ref ro, .int dy])), (pa, .inr (4, [.int mc, .ref el, .int 0])), (oa, .inl (cy 3, 1, .inr (.inl og)))] sz)) 1 6 (va_A [(h, .inr (13, [.ref pe, .ref ne, .ref pa, .ref ro, .int dy])), (pa, .inr (4, [.int mc, .ref el, .int 0])), (oa, .inl (cy 3, 1, .inr (.inl og)))] sz) := by
  refine vx_ofWH (cc := cL_state) (maxL := 4) (ret := (some .int)) (hh := [(0, 9, 12, 21)]) (by decide) rfl ?_
  intro p e s m args below meth c s₁ B hml hv
  have htb := vx_table (x := objectInit) B (atoms_spec (ws := wzL_state) B.pre _ List.mem_cons_self)
  obtain ⟨rfl, hsz, hP, hK, hD0, hZ, hN⟩ := hv
  have hx := B.exec
  have hb := B.bytes
  have hr := B.returns
  have hts := atoms_spec (ws := wzL_state) B.pre
  have hown : s.vm.findClass RL = some m.cls := findClass_of_methodNamed B.named
  have hlocks := B.notSynchronized
  subst hsz
  have hD := hD0.self (sz := s.heap.size)
  generalize hAe : va_A [(h, .inr (13, [.ref pe, .ref ne, .ref pa, .ref ro, .int dy])), (pa, .inr (4, [.int mc, .ref el, .int 0])), (oa, .inl (cy 3, 1, .inr (.inl og)))] s.heap.size = A at hD hZ ⊢
  have hA : ∀ q : Nat, s.heap.size ≤ q → A q := fun q h => by rw [← hAe]; exact Or.inr h
  have hS : va_S A s.heap s.heap [] := va_S.rf
  have hP : va_P D vwCl [(h, .inr (13, [.ref pe, .ref ne, .ref pa, .ref ro, .int dy])), (pa, .inr (4, [.int mc, .ref el, .int 0])), (oa, .inl (cy 3, 1, .inr (.inl og)))] s.heap := hP
  have hl := lv_entry ([.ref h, .int p0, .ref oa]) (n := 4) (Nat.le_of_ble_eq_true rfl)
  rw [lg_entry_eq]
  generalize (lg_sl ([.ref h, .int p0, .ref oa]) ++ List.replicate (4 - (lg_sl ([.ref h, .int p0, .ref oa])).length) Slot.unset).toArray = ls at hl ⊢
  have hl : lv_has ls 4 [(0, .ref h), (1, .int p0), (2, .ref oa)] := hl
  refine lv_aload_n hx hb dL_state_0 rfl (lv_at hl 2 rfl) ?_
  refine lv_iconst (v := 0) hx hb dL_state_1 (by decide) ?_
  refine lv_aload_n hx hb dL_state_2 rfl (lv_at hl 0 rfl) ?_
  refine lv_iload_n hx hb dL_state_3 rfl (lv_at hl 1 rfl) ?_
  have hPc := hP.sub (ws' := [(h, .inr (13, [.ref pe, .ref ne, .ref pa, .ref ro, .int dy])), (pa, .inr (4, [.int mc, .ref el, .int 0]))]) [0, 1] rfl
  have hDc := hD.sub (ws' := [(h, .inr (13, [.ref pe, .ref ne, .ref pa, .ref ro, .int dy])), (pa, .inr (4, [.int mc, .ref el, .int 0]))]) [0, 1] (by decide) rfl
  have hFc := va_free (wc := [(h, .inr (13, [.ref pe, .ref ne, .ref pa, .ref ro, .int dy])), (pa, .inr (4, [.int mc, .ref el, .int 0]))]) hD hS hA [0, 1] rfl
  refine vx_calli (vx_runV (As := [.int p0]) (rest := [.int 0, .ref oa]) ⟨hx, hb, hml, hown, hts⟩ (c_X8_state l hst D cy ed s.heap.size h pe ne pa ro dy mc el p0) (cwV 1 hts (zx_GV mm_1516 mm_1517 mm_1518 mm_71 mm_1519) rfl rfl rfl (by decide +kernel) ⟨(Nat.le_of_ble_eq_true rfl), (Nat.le_of_ble_eq_true rfl)⟩) ⟨zx_blind, va_recv hK hPc (ci := 13) (q0 := 0) rfl rfl, zx_give hPc hK hDc hS hFc hZ hN⟩ rfl rfl hl.1 rfl (lv_room (Nat.le_of_ble_eq_true rfl)) dL_state_4 ⟨(Nat.le_of_ble_eq_true rfl), (Nat.le_of_ble_eq_true rfl)⟩) hS (fun q _ h => hFc q h) hFc (fun q _ h => hFc q h) (fun E9 ce9 q9 _ t H locs ht hvm _ hBX hz1 hk1 hS hce hcv hcl => ?_) (fun r9 u t H locs ht hvm hw hB hz1 hk1 hS => ?_)
  · have hBX : (fun E9 => E9 = "java/lang/IndexOutOfBoundsException") E9 := hBX
    obtain rfl := hBX
    refine vx_catch hown [] { startPc := 0, endPc := 9, handlerPc := 12, catchType := 21 } [] (by rw [htb]; rfl) (fun z9 h9 => absurd h9 List.not_mem_nil) (by decide) (by decide) (hts (.classLink RL 21 "java/lang/IndexOutOfBoundsException") (zx_Gc mm_432)) (zx_cast_moved (Vm.Alike.refl _) (hN.2.2.1 _ _ (List.mem_of_getElem? (i := 475) (by decide +kernel)))) hce hcv hcl ?_
    obtain ⟨hP, hD⟩ := va_join (wr := [(oa, .inl (cy 3, 1, .inr (.inl og)))]) (w1 := []) hP hD [0, 1] [2] rfl rfl (by decide) (by decide) hk1 hFc zx_P0 zx_D0
    have hP : va_P D vwCl [(oa, .inl (cy 3, 1, .inr (.inl og)))] H := hP
    have hD : va_D A [(oa, .inl (cy 3, 1, .inr (.inl og)))] := hD
    refine W.widen (k := 1) (n := 6) (Nat.le_of_ble_eq_true rfl) (Nat.le_of_ble_eq_true rfl) ?_
    refine lv_astore_n (lv' := [(3, .ref q9), (0, .ref h), (1, .int p0), (2, .ref oa)]) hx hb dL_state_12 rfl hl (by decide) rfl (fun ls hl => ?_)
    refine lv_iconst (v := 1) hx hb dL_state_13 (by decide) ?_
    have hP9 := hP.sub (ws' := []) [] rfl
    have hD9 := hD.sub (ws' := []) [] (by decide) rfl
    refine vx_ret ?_
    exact W.iret (v := 1) hx hb hr (fun t ht hW => ⟨⟨1, (), rfl, rfl, zx_fin hP9 hD9 hK ht hW⟩, hS.F ht⟩) hS.2.2 dL_state_14
  · exact hw.elim
set_option maxHeartbeats 4000000 in
set_option maxRecDepth 100000 in
theorem c_L_letters (l : Launch) (hst : l.stackTraces = false) (D : va_G) (cy : Nat → ClassId) (ed sz : Nat) (h : Nat) (pe : Nat) (ne : Nat) (pa : Nat) (ro : Nat) (dy : Int32) (mc : Int32) (el : Nat) (oa : Nat) (og : Nat → Int64) (p0 : Int32) : vx_Met l yL_letters wzL_letters ({ frames := 9, cells := 1, slots := 6, locals := 145 }) (zx_Pc D cy ed sz [.ref h, .int p0, .ref oa] [(h, .inr (13, [.ref pe, .ref ne, .ref pa, .ref ro, .int dy])), (pa, .inr (4, [.int mc, .ref el, .int 0])), (oa, .inl (cy 3, 1, .inr (.inl og)))]) (va_Qi (fun (r9 : Int32) (u9 : Unit) => r9 = 1) (fun (u9 : Unit) (t9 : State) => zx_At D cy (va_A [(h, .inr (13, [.ref pe, .ref ne, .ref pa, .ref ro, .int dy])), (pa, .inr (4, [.int mc, .ref el, .int 0])), (oa, .inl (cy 3, 1, .inr (.inl og)))] sz) [] t9) (va_A [(h, .inr (13, [.ref pe, .ref ne, .ref pa, .ref ro, .int dy])), (pa, .inr (4, [.int mc, .ref el, .int 0])), (oa, .inl (cy 3, 1, .inr (.inl og)))] sz)) (zx_X (fun _ => False) (va_A [(h, .inr (13, [.ref pe, .ref ne, .ref pa, .ref ro, .int dy])), (pa, .inr (4, [.int mc, .ref el, .int 0])), (oa, .inl (cy 3, 1, .inr (.inl og)))] sz)) 1 6 (va_A [(h, .inr (13, [.ref pe, .ref ne, .ref pa, .ref ro, .int dy])), (pa, .inr (4, [.int mc, .ref el, .int 0])), (oa, .inl (cy 3, 1, .inr (.inl og)))] sz) := by
  refine vx_ofWH (cc := cL_letters) (maxL := 4) (ret := (some .int)) (hh := [(0, 9, 12, 21)]) (by decide) rfl ?_
  intro p e s m args below meth c s₁ B hml hv
  have htb := vx_table (x := objectInit) B (atoms_spec (ws := wzL_letters) B.pre _ List.mem_cons_self)
  obtain ⟨rfl, hsz, hP, hK, hD0, hZ, hN⟩ := hv
  have hx := B.exec
  have hb := B.bytes
  have hr := B.returns
  have hts := atoms_spec (ws := wzL_letters) B.pre
  have hown : s.vm.findClass RL = some m.cls := findClass_of_methodNamed B.named
  have hlocks := B.notSynchronized
  subst hsz
  have hD := hD0.self (sz := s.heap.size)
  generalize hAe : va_A [(h, .inr (13, [.ref pe, .ref ne, .ref pa, .ref ro, .int dy])), (pa, .inr (4, [.int mc, .ref el, .int 0])), (oa, .inl (cy 3, 1, .inr (.inl og)))] s.heap.size = A at hD hZ ⊢
  have hA : ∀ q : Nat, s.heap.size ≤ q → A q := fun q h => by rw [← hAe]; exact Or.inr h
  have hS : va_S A s.heap s.heap [] := va_S.rf
  have hP : va_P D vwCl [(h, .inr (13, [.ref pe, .ref ne, .ref pa, .ref ro, .int dy])), (pa, .inr (4, [.int mc, .ref el, .int 0])), (oa, .inl (cy 3, 1, .inr (.inl og)))] s.heap := hP
  have hl := lv_entry ([.ref h, .int p0, .ref oa]) (n := 4) (Nat.le_of_ble_eq_true rfl)
  rw [lg_entry_eq]
  generalize (lg_sl ([.ref h, .int p0, .ref oa]) ++ List.replicate (4 - (lg_sl ([.ref h, .int p0, .ref oa])).length) Slot.unset).toArray = ls at hl ⊢
  have hl : lv_has ls 4 [(0, .ref h), (1, .int p0), (2, .ref oa)] := hl
  refine lv_aload_n hx hb dL_letters_0 rfl (lv_at hl 2 rfl) ?_
  refine lv_iconst (v := 0) hx hb dL_letters_1 (by decide) ?_
  refine lv_aload_n hx hb dL_letters_2 rfl (lv_at hl 0 rfl) ?_
  refine lv_iload_n hx hb dL_letters_3 rfl (lv_at hl 1 rfl) ?_
  have hPc := hP.sub (ws' := [(h, .inr (13, [.ref pe, .ref ne, .ref pa, .ref ro, .int dy])), (pa, .inr (4, [.int mc, .ref el, .int 0]))]) [0, 1] rfl
  have hDc := hD.sub (ws' := [(h, .inr (13, [.ref pe, .ref ne, .ref pa, .ref ro, .int dy])), (pa, .inr (4, [.int mc, .ref el, .int 0]))]) [0, 1] (by decide) rfl
  have hFc := va_free (wc := [(h, .inr (13, [.ref pe, .ref ne, .ref pa, .ref ro, .int dy])), (pa, .inr (4, [.int mc, .ref el, .int 0]))]) hD hS hA [0, 1] rfl
  refine vx_calli (vx_runV (As := [.int p0]) (rest := [.int 0, .ref oa]) ⟨hx, hb, hml, hown, hts⟩ (c_X8_letters l hst D cy ed s.heap.size h pe ne pa ro dy mc el p0) (cwV 1 hts (zx_GV mm_1523 mm_1524 mm_1525 mm_71 mm_1526) rfl rfl rfl (by decide +kernel) ⟨(Nat.le_of_ble_eq_true rfl), (Nat.le_of_ble_eq_true rfl)⟩) ⟨zx_blind, va_recv hK hPc (ci := 13) (q0 := 0) rfl rfl, zx_give hPc hK hDc hS hFc hZ hN⟩ rfl rfl hl.1 rfl (lv_room (Nat.le_of_ble_eq_true rfl)) dL_letters_4 ⟨(Nat.le_of_ble_eq_true rfl), (Nat.le_of_ble_eq_true rfl)⟩) hS (fun q _ h => hFc q h) hFc (fun q _ h => hFc q h) (fun E9 ce9 q9 _ t H locs ht hvm _ hBX hz1 hk1 hS hce hcv hcl => ?_) (fun r9 u t H locs ht hvm hw hB hz1 hk1 hS => ?_)
  · have hBX : (fun E9 => E9 = "java/lang/IndexOutOfBoundsException") E9 := hBX
    obtain rfl := hBX
    refine vx_catch hown [] { startPc := 0, endPc := 9, handlerPc := 12, catchType := 21 } [] (by rw [htb]; rfl) (fun z9 h9 => absurd h9 List.not_mem_nil) (by decide) (by decide) (hts (.classLink RL 21 "java/lang/IndexOutOfBoundsException") (zx_Gc mm_432)) (zx_cast_moved (Vm.Alike.refl _) (hN.2.2.1 _ _ (List.mem_of_getElem? (i := 475) (by decide +kernel)))) hce hcv hcl ?_
    obtain ⟨hP, hD⟩ := va_join (wr := [(oa, .inl (cy 3, 1, .inr (.inl og)))]) (w1 := []) hP hD [0, 1] [2] rfl rfl (by decide) (by decide) hk1 hFc zx_P0 zx_D0
    have hP : va_P D vwCl [(oa, .inl (cy 3, 1, .inr (.inl og)))] H := hP
    have hD : va_D A [(oa, .inl (cy 3, 1, .inr (.inl og)))] := hD
    refine W.widen (k := 1) (n := 6) (Nat.le_of_ble_eq_true rfl) (Nat.le_of_ble_eq_true rfl) ?_
    refine lv_astore_n (lv' := [(3, .ref q9), (0, .ref h), (1, .int p0), (2, .ref oa)]) hx hb dL_letters_12 rfl hl (by decide) rfl (fun ls hl => ?_)
    refine lv_iconst (v := 1) hx hb dL_letters_13 (by decide) ?_
    have hP9 := hP.sub (ws' := []) [] rfl
    have hD9 := hD.sub (ws' := []) [] (by decide) rfl
    refine vx_ret ?_
    exact W.iret (v := 1) hx hb hr (fun t ht hW => ⟨⟨1, (), rfl, rfl, zx_fin hP9 hD9 hK ht hW⟩, hS.F ht⟩) hS.2.2 dL_letters_14
  · exact hw.elim
set_option maxHeartbeats 4000000 in
set_option maxRecDepth 100000 in
theorem c_L_letter (l : Launch) (hst : l.stackTraces = false) (D : va_G) (cy : Nat → ClassId) (ed sz : Nat) (h : Nat) (pe : Nat) (ne : Nat) (pa : Nat) (ro : Nat) (dy : Int32) (mc : Int32) (el : Nat) (oa : Nat) (og : Nat → Int64) (p0 : Int32) (p1 : Int32) : vx_Met l yL_letter wzL_letter ({ frames := 9, cells := 1, slots := 6, locals := 146 }) (zx_Pc D cy ed sz [.ref h, .int p0, .int p1, .ref oa] [(h, .inr (13, [.ref pe, .ref ne, .ref pa, .ref ro, .int dy])), (pa, .inr (4, [.int mc, .ref el, .int 0])), (oa, .inl (cy 3, 1, .inr (.inl og)))]) (va_Qi (fun (r9 : Int32) (u9 : Unit) => r9 = 1) (fun (u9 : Unit) (t9 : State) => zx_At D cy (va_A [(h, .inr (13, [.ref pe, .ref ne, .ref pa, .ref ro, .int dy])), (pa, .inr (4, [.int mc, .ref el, .int 0])), (oa, .inl (cy 3, 1, .inr (.inl og)))] sz) [] t9) (va_A [(h, .inr (13, [.ref pe, .ref ne, .ref pa, .ref ro, .int dy])), (pa, .inr (4, [.int mc, .ref el, .int 0])), (oa, .inl (cy 3, 1, .inr (.inl og)))] sz)) (zx_X (fun _ => False) (va_A [(h, .inr (13, [.ref pe, .ref ne, .ref pa, .ref ro, .int dy])), (pa, .inr (4, [.int mc, .ref el, .int 0])), (oa, .inl (cy 3, 1, .inr (.inl og)))] sz)) 1 6 (va_A [(h, .inr (13, [.ref pe, .ref ne, .ref pa, .ref ro, .int dy])), (pa, .inr (4, [.int mc, .ref el, .int 0])), (oa, .inl (cy 3, 1, .inr (.inl og)))] sz) := by
  refine vx_ofWH (cc := cL_letter) (maxL := 5) (ret := (some .int)) (hh := [(0, 10, 13, 21)]) (by decide) rfl ?_
  intro p e s m args below meth c s₁ B hml hv
  have htb := vx_table (x := objectInit) B (atoms_spec (ws := wzL_letter) B.pre _ List.mem_cons_self)
  obtain ⟨rfl, hsz, hP, hK, hD0, hZ, hN⟩ := hv
  have hx := B.exec
  have hb := B.bytes
  have hr := B.returns
  have hts := atoms_spec (ws := wzL_letter) B.pre
  have hown : s.vm.findClass RL = some m.cls := findClass_of_methodNamed B.named
  have hlocks := B.notSynchronized
  subst hsz
  have hD := hD0.self (sz := s.heap.size)
  generalize hAe : va_A [(h, .inr (13, [.ref pe, .ref ne, .ref pa, .ref ro, .int dy])), (pa, .inr (4, [.int mc, .ref el, .int 0])), (oa, .inl (cy 3, 1, .inr (.inl og)))] s.heap.size = A at hD hZ ⊢
  have hA : ∀ q : Nat, s.heap.size ≤ q → A q := fun q h => by rw [← hAe]; exact Or.inr h
  have hS : va_S A s.heap s.heap [] := va_S.rf
  have hP : va_P D vwCl [(h, .inr (13, [.ref pe, .ref ne, .ref pa, .ref ro, .int dy])), (pa, .inr (4, [.int mc, .ref el, .int 0])), (oa, .inl (cy 3, 1, .inr (.inl og)))] s.heap := hP
  have hl := lv_entry ([.ref h, .int p0, .int p1, .ref oa]) (n := 5) (Nat.le_of_ble_eq_true rfl)
  rw [lg_entry_eq]
  generalize (lg_sl ([.ref h, .int p0, .int p1, .ref oa]) ++ List.replicate (5 - (lg_sl ([.ref h, .int p0, .int p1, .ref oa])).length) Slot.unset).toArray = ls at hl ⊢
  have hl : lv_has ls 5 [(0, .ref h), (1, .int p0), (2, .int p1), (3, .ref oa)] := hl
  refine lv_aload_n hx hb dL_letter_0 rfl (lv_at hl 3 rfl) ?_
  refine lv_iconst (v := 0) hx hb dL_letter_1 (by decide) ?_
  refine lv_aload_n hx hb dL_letter_2 rfl (lv_at hl 0 rfl) ?_
  refine lv_iload_n hx hb dL_letter_3 rfl (lv_at hl 1 rfl) ?_
  refine lv_iload_n hx hb dL_letter_4 rfl (lv_at hl 2 rfl) ?_
  have hPc := hP.sub (ws' := [(h, .inr (13, [.ref pe, .ref ne, .ref pa, .ref ro, .int dy])), (pa, .inr (4, [.int mc, .ref el, .int 0]))]) [0, 1] rfl
  have hDc := hD.sub (ws' := [(h, .inr (13, [.ref pe, .ref ne, .ref pa, .ref ro, .int dy])), (pa, .inr (4, [.int mc, .ref el, .int 0]))]) [0, 1] (by decide) rfl
  have hFc := va_free (wc := [(h, .inr (13, [.ref pe, .ref ne, .ref pa, .ref ro, .int dy])), (pa, .inr (4, [.int mc, .ref el, .int 0]))]) hD hS hA [0, 1] rfl
  refine vx_calli (vx_runV (As := [.int p0, .int p1]) (rest := [.int 0, .ref oa]) ⟨hx, hb, hml, hown, hts⟩ (c_X8_letter l hst D cy ed s.heap.size h pe ne pa ro dy mc el p0 p1) (cwV 2 hts (zx_GV mm_1530 mm_1531 mm_1532 mm_71 mm_1533) rfl rfl rfl (by decide +kernel) ⟨(Nat.le_of_ble_eq_true rfl), (Nat.le_of_ble_eq_true rfl)⟩) ⟨zx_blind, va_recv hK hPc (ci := 13) (q0 := 0) rfl rfl, zx_give hPc hK hDc hS hFc hZ hN⟩ rfl rfl hl.1 rfl (lv_room (Nat.le_of_ble_eq_true rfl)) dL_letter_5 ⟨(Nat.le_of_ble_eq_true rfl), (Nat.le_of_ble_eq_true rfl)⟩) hS (fun q _ h => hFc q h) hFc (fun q _ h => hFc q h) (fun E9 ce9 q9 _ t H locs ht hvm _ hBX hz1 hk1 hS hce hcv hcl => ?_) (fun r9 u t H locs ht hvm hw hB hz1 hk1 hS => ?_)
  · have hBX : (fun E9 => E9 = "java/lang/IndexOutOfBoundsException") E9 := hBX
    obtain rfl := hBX
    refine vx_catch hown [] { startPc := 0, endPc := 10, handlerPc := 13, catchType := 21 } [] (by rw [htb]; rfl) (fun z9 h9 => absurd h9 List.not_mem_nil) (by decide) (by decide) (hts (.classLink RL 21 "java/lang/IndexOutOfBoundsException") (zx_Gc mm_432)) (zx_cast_moved (Vm.Alike.refl _) (hN.2.2.1 _ _ (List.mem_of_getElem? (i := 475) (by decide +kernel)))) hce hcv hcl ?_
    obtain ⟨hP, hD⟩ := va_join (wr := [(oa, .inl (cy 3, 1, .inr (.inl og)))]) (w1 := []) hP hD [0, 1] [2] rfl rfl (by decide) (by decide) hk1 hFc zx_P0 zx_D0
    have hP : va_P D vwCl [(oa, .inl (cy 3, 1, .inr (.inl og)))] H := hP
    have hD : va_D A [(oa, .inl (cy 3, 1, .inr (.inl og)))] := hD
    refine W.widen (k := 1) (n := 6) (Nat.le_of_ble_eq_true rfl) (Nat.le_of_ble_eq_true rfl) ?_
    refine lv_astore (lv' := [(4, .ref q9), (0, .ref h), (1, .int p0), (2, .int p1), (3, .ref oa)]) hx hb dL_letter_13 hl (by decide) rfl (fun ls hl => ?_)
    refine lv_iconst (v := 1) hx hb dL_letter_15 (by decide) ?_
    have hP9 := hP.sub (ws' := []) [] rfl
    have hD9 := hD.sub (ws' := []) [] (by decide) rfl
    refine vx_ret ?_
    exact W.iret (v := 1) hx hb hr (fun t ht hW => ⟨⟨1, (), rfl, rfl, zx_fin hP9 hD9 hK ht hW⟩, hS.F ht⟩) hS.2.2 dL_letter_16
  · exact hw.elim
set_option maxHeartbeats 4000000 in
set_option maxRecDepth 100000 in
theorem c_L_acceptedShare (l : Launch) (hst : l.stackTraces = false) (D : va_G) (cy : Nat → ClassId) (ed sz : Nat) (h : Nat) (pe : Nat) (ne : Nat) (pa : Nat) (ro : Nat) (dy : Int32) (mc : Int32) (el : Nat) (oa : Nat) (og : Nat → UInt64) : vx_Met l yL_acceptedShare wzL_acceptedShare ({ frames := 7, cells := 1, slots := 6, locals := 105 }) (zx_Pc D cy ed sz [.ref h, .ref oa] [(h, .inr (13, [.ref pe, .ref ne, .ref pa, .ref ro, .int dy])), (pa, .inr (4, [.int mc, .ref el, .int 0])), (oa, .inl (cy 4, 1, .inr (.inr (.inr (.inl og)))))]) (va_Qi (fun (r9 : Int32) (u9 : Unit) => r9 = 1) (fun (u9 : Unit) (t9 : State) => zx_At D cy (va_A [(h, .inr (13, [.ref pe, .ref ne, .ref pa, .ref ro, .int dy])), (pa, .inr (4, [.int mc, .ref el, .int 0])), (oa, .inl (cy 4, 1, .inr (.inr (.inr (.inl og)))))] sz) [] t9) (va_A [(h, .inr (13, [.ref pe, .ref ne, .ref pa, .ref ro, .int dy])), (pa, .inr (4, [.int mc, .ref el, .int 0])), (oa, .inl (cy 4, 1, .inr (.inr (.inr (.inl og)))))] sz)) (zx_X (fun _ => False) (va_A [(h, .inr (13, [.ref pe, .ref ne, .ref pa, .ref ro, .int dy])), (pa, .inr (4, [.int mc, .ref el, .int 0])), (oa, .inl (cy 4, 1, .inr (.inr (.inr (.inl og)))))] sz)) 1 6 (va_A [(h, .inr (13, [.ref pe, .ref ne, .ref pa, .ref ro, .int dy])), (pa, .inr (4, [.int mc, .ref el, .int 0])), (oa, .inl (cy 4, 1, .inr (.inr (.inr (.inl og)))))] sz) := by
  refine vx_ofWH (cc := cL_acceptedShare) (maxL := 3) (ret := (some .int)) (hh := [(0, 8, 11, 183)]) (by decide) rfl ?_
  intro p e s m args below meth c s₁ B hml hv
  have htb := vx_table (x := objectInit) B (atoms_spec (ws := wzL_acceptedShare) B.pre _ List.mem_cons_self)
  obtain ⟨rfl, hsz, hP, hK, hD0, hZ, hN⟩ := hv
  have hx := B.exec
  have hb := B.bytes
  have hr := B.returns
  have hts := atoms_spec (ws := wzL_acceptedShare) B.pre
  have hown : s.vm.findClass RL = some m.cls := findClass_of_methodNamed B.named
  have hlocks := B.notSynchronized
  subst hsz
  have hD := hD0.self (sz := s.heap.size)
  generalize hAe : va_A [(h, .inr (13, [.ref pe, .ref ne, .ref pa, .ref ro, .int dy])), (pa, .inr (4, [.int mc, .ref el, .int 0])), (oa, .inl (cy 4, 1, .inr (.inr (.inr (.inl og)))))] s.heap.size = A at hD hZ ⊢
  have hA : ∀ q : Nat, s.heap.size ≤ q → A q := fun q h => by rw [← hAe]; exact Or.inr h
  have hS : va_S A s.heap s.heap [] := va_S.rf
  have hP : va_P D vwCl [(h, .inr (13, [.ref pe, .ref ne, .ref pa, .ref ro, .int dy])), (pa, .inr (4, [.int mc, .ref el, .int 0])), (oa, .inl (cy 4, 1, .inr (.inr (.inr (.inl og)))))] s.heap := hP
  have hl := lv_entry ([.ref h, .ref oa]) (n := 3) (Nat.le_of_ble_eq_true rfl)
  rw [lg_entry_eq]
  generalize (lg_sl ([.ref h, .ref oa]) ++ List.replicate (3 - (lg_sl ([.ref h, .ref oa])).length) Slot.unset).toArray = ls at hl ⊢
  have hl : lv_has ls 3 [(0, .ref h), (1, .ref oa)] := hl
  refine lv_aload_n hx hb dL_acceptedShare_0 rfl (lv_at hl 1 rfl) ?_
  refine lv_iconst (v := 0) hx hb dL_acceptedShare_1 (by decide) ?_
  refine lv_aload_n hx hb dL_acceptedShare_2 rfl (lv_at hl 0 rfl) ?_
  have hPc := hP.sub (ws' := [(h, .inr (13, [.ref pe, .ref ne, .ref pa, .ref ro, .int dy])), (pa, .inr (4, [.int mc, .ref el, .int 0]))]) [0, 1] rfl
  have hDc := hD.sub (ws' := [(h, .inr (13, [.ref pe, .ref ne, .ref pa, .ref ro, .int dy])), (pa, .inr (4, [.int mc, .ref el, .int 0]))]) [0, 1] (by decide) rfl
  have hFc := va_free (wc := [(h, .inr (13, [.ref pe, .ref ne, .ref pa, .ref ro, .int dy])), (pa, .inr (4, [.int mc, .ref el, .int 0]))]) hD hS hA [0, 1] rfl
  refine vx_callf (vx_runV (As := []) (rest := [.int 0, .ref oa]) ⟨hx, hb, hml, hown, hts⟩ (c_X8_acceptedShare l hst D cy ed s.heap.size h pe ne pa ro dy mc el) (cwV 0 hts (zx_GV mm_1552 mm_1553 mm_1554 mm_71 mm_1555) rfl rfl rfl (by decide +kernel) ⟨(Nat.le_of_ble_eq_true rfl), (Nat.le_of_ble_eq_true rfl)⟩) ⟨zx_blind, va_recv hK hPc (ci := 13) (q0 := 0) rfl rfl, zx_give hPc hK hDc hS hFc hZ hN⟩ rfl rfl hl.1 rfl (lv_room (Nat.le_of_ble_eq_true rfl)) dL_acceptedShare_3 ⟨(Nat.le_of_ble_eq_true rfl), (Nat.le_of_ble_eq_true rfl)⟩) hS (fun q _ h => hFc q h) hFc (fun q _ h => hFc q h) (fun E9 ce9 q9 _ t H locs ht hvm _ hBX hz1 hk1 hS hce hcv hcl => ?_) (fun r9 u t H locs ht hvm hw hB hz1 hk1 hS => ?_)
  · have hBX : (fun E9 => E9 = "java/lang/ArithmeticException") E9 := hBX
    obtain rfl := hBX
    refine vx_catch hown [] { startPc := 0, endPc := 8, handlerPc := 11, catchType := 183 } [] (by rw [htb]; rfl) (fun z9 h9 => absurd h9 List.not_mem_nil) (by decide) (by decide) (hts (.classLink RL 183 "java/lang/ArithmeticException") (zx_Gc mm_1467)) (zx_cast_moved (Vm.Alike.refl _) (hN.2.2.1 _ _ (List.mem_of_getElem? (i := 1479) (by decide +kernel)))) hce hcv hcl ?_
    obtain ⟨hP, hD⟩ := va_join (wr := [(oa, .inl (cy 4, 1, .inr (.inr (.inr (.inl og)))))]) (w1 := []) hP hD [0, 1] [2] rfl rfl (by decide) (by decide) hk1 hFc zx_P0 zx_D0
    have hP : va_P D vwCl [(oa, .inl (cy 4, 1, .inr (.inr (.inr (.inl og)))))] H := hP
    have hD : va_D A [(oa, .inl (cy 4, 1, .inr (.inr (.inr (.inl og)))))] := hD
    refine W.widen (k := 1) (n := 6) (Nat.le_of_ble_eq_true rfl) (Nat.le_of_ble_eq_true rfl) ?_
    refine lv_astore_n (lv' := [(2, .ref q9), (0, .ref h), (1, .ref oa)]) hx hb dL_acceptedShare_11 rfl hl (by decide) rfl (fun ls hl => ?_)
    refine lv_iconst (v := 1) hx hb dL_acceptedShare_12 (by decide) ?_
    have hP9 := hP.sub (ws' := []) [] rfl
    have hD9 := hD.sub (ws' := []) [] (by decide) rfl
    refine vx_ret ?_
    exact W.iret (v := 1) hx hb hr (fun t ht hW => ⟨⟨1, (), rfl, rfl, zx_fin hP9 hD9 hK ht hW⟩, hS.F ht⟩) hS.2.2 dL_acceptedShare_13
  · exact hw.elim
set_option maxHeartbeats 4000000 in
set_option maxRecDepth 100000 in
theorem c_L_meanScore (l : Launch) (hst : l.stackTraces = false) (D : va_G) (cy : Nat → ClassId) (ed sz : Nat) (h : Nat) (pe : Nat) (ne : Nat) (pa : Nat) (ro : Nat) (dy : Int32) (a1 : Nat) (a2 : Nat) (a3 : Nat) (a4 : Nat) (a5 : Nat) (a6 : Nat) (a7 : Nat) (a8 : Nat) (a9 : Nat) (oa : Nat) (og : Nat → UInt64) : vx_Met l yL_meanScore wzL_meanScore ({ frames := 7, cells := 1, slots := 6, locals := 104 }) (zx_Pc D cy ed sz [.ref h, .ref oa] [(h, .inr (13, [.ref pe, .ref ne, .ref pa, .ref ro, .int dy])), (pe, .inr (9, [.int 0, .ref a1, .ref a2, .ref a3, .ref a4, .ref a5, .ref a6, .ref a7, .ref a8, .ref a9])), (oa, .inl (cy 4, 1, .inr (.inr (.inr (.inl og)))))]) (va_Qi (fun (r9 : Int32) (u9 : Unit) => r9 = 1) (fun (u9 : Unit) (t9 : State) => zx_At D cy (va_A [(h, .inr (13, [.ref pe, .ref ne, .ref pa, .ref ro, .int dy])), (pe, .inr (9, [.int 0, .ref a1, .ref a2, .ref a3, .ref a4, .ref a5, .ref a6, .ref a7, .ref a8, .ref a9])), (oa, .inl (cy 4, 1, .inr (.inr (.inr (.inl og)))))] sz) [] t9) (va_A [(h, .inr (13, [.ref pe, .ref ne, .ref pa, .ref ro, .int dy])), (pe, .inr (9, [.int 0, .ref a1, .ref a2, .ref a3, .ref a4, .ref a5, .ref a6, .ref a7, .ref a8, .ref a9])), (oa, .inl (cy 4, 1, .inr (.inr (.inr (.inl og)))))] sz)) (zx_X (fun _ => False) (va_A [(h, .inr (13, [.ref pe, .ref ne, .ref pa, .ref ro, .int dy])), (pe, .inr (9, [.int 0, .ref a1, .ref a2, .ref a3, .ref a4, .ref a5, .ref a6, .ref a7, .ref a8, .ref a9])), (oa, .inl (cy 4, 1, .inr (.inr (.inr (.inl og)))))] sz)) 1 6 (va_A [(h, .inr (13, [.ref pe, .ref ne, .ref pa, .ref ro, .int dy])), (pe, .inr (9, [.int 0, .ref a1, .ref a2, .ref a3, .ref a4, .ref a5, .ref a6, .ref a7, .ref a8, .ref a9])), (oa, .inl (cy 4, 1, .inr (.inr (.inr (.inl og)))))] sz) := by
  refine vx_ofWH (cc := cL_meanScore) (maxL := 3) (ret := (some .int)) (hh := [(0, 7, 10, 183)]) (by decide) rfl ?_
  intro p e s m args below meth c s₁ B hml hv
  have htb := vx_table (x := objectInit) B (atoms_spec (ws := wzL_meanScore) B.pre _ List.mem_cons_self)
  obtain ⟨rfl, hsz, hP, hK, hD0, hZ, hN⟩ := hv
  have hx := B.exec
  have hb := B.bytes
  have hr := B.returns
  have hts := atoms_spec (ws := wzL_meanScore) B.pre
  have hown : s.vm.findClass RL = some m.cls := findClass_of_methodNamed B.named
  have hlocks := B.notSynchronized
  subst hsz
  have hD := hD0.self (sz := s.heap.size)
  generalize hAe : va_A [(h, .inr (13, [.ref pe, .ref ne, .ref pa, .ref ro, .int dy])), (pe, .inr (9, [.int 0, .ref a1, .ref a2, .ref a3, .ref a4, .ref a5, .ref a6, .ref a7, .ref a8, .ref a9])), (oa, .inl (cy 4, 1, .inr (.inr (.inr (.inl og)))))] s.heap.size = A at hD hZ ⊢
  have hA : ∀ q : Nat, s.heap.size ≤ q → A q := fun q h => by rw [← hAe]; exact Or.inr h
  have hS : va_S A s.heap s.heap [] := va_S.rf
  have hP : va_P D vwCl [(h, .inr (13, [.ref pe, .ref ne, .ref pa, .ref ro, .int dy])), (pe, .inr (9, [.int 0, .ref a1, .ref a2, .ref a3, .ref a4, .ref a5, .ref a6, .ref a7, .ref a8, .ref a9])), (oa, .inl (cy 4, 1, .inr (.inr (.inr (.inl og)))))] s.heap := hP
  have hl := lv_entry ([.ref h, .ref oa]) (n := 3) (Nat.le_of_ble_eq_true rfl)
  rw [lg_entry_eq]
  generalize (lg_sl ([.ref h, .ref oa]) ++ List.replicate (3 - (lg_sl ([.ref h, .ref oa])).length) Slot.unset).toArray = ls at hl ⊢
  have hl : lv_has ls 3 [(0, .ref h), (1, .ref oa)] := hl
  refine lv_aload_n hx hb dL_meanScore_0 rfl (lv_at hl 1 rfl) ?_
  refine lv_iconst (v := 0) hx hb dL_meanScore_1 (by decide) ?_
  refine lv_aload_n hx hb dL_meanScore_2 rfl (lv_at hl 0 rfl) ?_
  have hPc := hP.sub (ws' := [(h, .inr (13, [.ref pe, .ref ne, .ref pa, .ref ro, .int dy])), (pe, .inr (9, [.int 0, .ref a1, .ref a2, .ref a3, .ref a4, .ref a5, .ref a6, .ref a7, .ref a8, .ref a9]))]) [0, 1] rfl
  have hDc := hD.sub (ws' := [(h, .inr (13, [.ref pe, .ref ne, .ref pa, .ref ro, .int dy])), (pe, .inr (9, [.int 0, .ref a1, .ref a2, .ref a3, .ref a4, .ref a5, .ref a6, .ref a7, .ref a8, .ref a9]))]) [0, 1] (by decide) rfl
  have hFc := va_free (wc := [(h, .inr (13, [.ref pe, .ref ne, .ref pa, .ref ro, .int dy])), (pe, .inr (9, [.int 0, .ref a1, .ref a2, .ref a3, .ref a4, .ref a5, .ref a6, .ref a7, .ref a8, .ref a9]))]) hD hS hA [0, 1] rfl
  refine vx_calld (vx_runV (As := []) (rest := [.int 0, .ref oa]) ⟨hx, hb, hml, hown, hts⟩ (c_X8_meanScore l hst D cy ed s.heap.size h pe ne pa ro dy a1 a2 a3 a4 a5 a6 a7 a8 a9) (cwV 0 hts (zx_GV mm_1559 mm_1560 mm_1561 mm_71 mm_1562) rfl rfl rfl (by decide +kernel) ⟨(Nat.le_of_ble_eq_true rfl), (Nat.le_of_ble_eq_true rfl)⟩) ⟨zx_blind, va_recv hK hPc (ci := 13) (q0 := 0) rfl rfl, zx_give hPc hK hDc hS hFc hZ hN⟩ rfl rfl hl.1 rfl (lv_room (Nat.le_of_ble_eq_true rfl)) dL_meanScore_3 ⟨(Nat.le_of_ble_eq_true rfl), (Nat.le_of_ble_eq_true rfl)⟩) hS (fun q _ h => hFc q h) hFc (fun q _ h => hFc q h) (fun E9 ce9 q9 _ t H locs ht hvm _ hBX hz1 hk1 hS hce hcv hcl => ?_) (fun r9 u t H locs ht hvm hw hB hz1 hk1 hS => ?_)
  · have hBX : (fun E9 => E9 = "java/lang/ArithmeticException") E9 := hBX
    obtain rfl := hBX
    refine vx_catch hown [] { startPc := 0, endPc := 7, handlerPc := 10, catchType := 183 } [] (by rw [htb]; rfl) (fun z9 h9 => absurd h9 List.not_mem_nil) (by decide) (by decide) (hts (.classLink RL 183 "java/lang/ArithmeticException") (zx_Gc mm_1467)) (zx_cast_moved (Vm.Alike.refl _) (hN.2.2.1 _ _ (List.mem_of_getElem? (i := 1479) (by decide +kernel)))) hce hcv hcl ?_
    obtain ⟨hP, hD⟩ := va_join (wr := [(oa, .inl (cy 4, 1, .inr (.inr (.inr (.inl og)))))]) (w1 := []) hP hD [0, 1] [2] rfl rfl (by decide) (by decide) hk1 hFc zx_P0 zx_D0
    have hP : va_P D vwCl [(oa, .inl (cy 4, 1, .inr (.inr (.inr (.inl og)))))] H := hP
    have hD : va_D A [(oa, .inl (cy 4, 1, .inr (.inr (.inr (.inl og)))))] := hD
    refine W.widen (k := 1) (n := 6) (Nat.le_of_ble_eq_true rfl) (Nat.le_of_ble_eq_true rfl) ?_
    refine lv_astore_n (lv' := [(2, .ref q9), (0, .ref h), (1, .ref oa)]) hx hb dL_meanScore_10 rfl hl (by decide) rfl (fun ls hl => ?_)
    refine lv_iconst (v := 1) hx hb dL_meanScore_11 (by decide) ?_
    have hP9 := hP.sub (ws' := []) [] rfl
    have hD9 := hD.sub (ws' := []) [] (by decide) rfl
    refine vx_ret ?_
    exact W.iret (v := 1) hx hb hr (fun t ht hW => ⟨⟨1, (), rfl, rfl, zx_fin hP9 hD9 hK ht hW⟩, hS.F ht⟩) hS.2.2 dL_meanScore_12
  · exact hw.elim
set_option maxHeartbeats 4000000 in
set_option maxRecDepth 100000 in
theorem c_L_addPerson (l : Launch) (hst : l.stackTraces = false) (D : va_G) (cy : Nat → ClassId) (ed sz : Nat) (h : Nat) (pe : Nat) (ne : Nat) (pa : Nat) (ro : Nat) (dy : Int32) (a1 : Nat) (a2 : Nat) (a3 : Nat) (a4 : Nat) (a5 : Nat) (a6 : Nat) (a7 : Nat) (a8 : Nat) (a9 : Nat) (f1 : Nat → Int32) (f2 : Nat → Int32) (oa : Nat) (og : Nat → Int64) (p0 : Int32) (p1 : Int32) : vx_Met l yL_addPerson wzL_addPerson ({ frames := 7, cells := 1, slots := 6, locals := 103 }) (zx_Pc D cy ed sz [.ref h, .int p0, .int p1, .ref oa] [(h, .inr (13, [.ref pe, .ref ne, .ref pa, .ref ro, .int dy])), (pe, .inr (9, [.int 0, .ref a1, .ref a2, .ref a3, .ref a4, .ref a5, .ref a6, .ref a7, .ref a8, .ref a9])), (a1, .inl (cy 0, 20, .inl f1)), (a2, .inl (cy 0, 20, .inl f2)), (oa, .inl (cy 3, 1, .inr (.inl og)))]) (va_Qi (fun (r9 : Int32) (u9 : Nat → Int64) => match u9 with | o2 => r9 = (k_addPerson p0 p1) ∧ (k_addPerson p0 p1 = 0 → o2 0 = 0)) (fun (u9 : Nat → Int64) (t9 : State) => match u9 with | o2 => zx_At D cy (va_A [(h, .inr (13, [.ref pe, .ref ne, .ref pa, .ref ro, .int dy])), (pe, .inr (9, [.int 0, .ref a1, .ref a2, .ref a3, .ref a4, .ref a5, .ref a6, .ref a7, .ref a8, .ref a9])), (a1, .inl (cy 0, 20, .inl f1)), (a2, .inl (cy 0, 20, .inl f2)), (oa, .inl (cy 3, 1, .inr (.inl og)))] sz) [(oa, .inl (cy 3, 1, .inr (.inl o2)))] t9) (va_A [(h, .inr (13, [.ref pe, .ref ne, .ref pa, .ref ro, .int dy])), (pe, .inr (9, [.int 0, .ref a1, .ref a2, .ref a3, .ref a4, .ref a5, .ref a6, .ref a7, .ref a8, .ref a9])), (a1, .inl (cy 0, 20, .inl f1)), (a2, .inl (cy 0, 20, .inl f2)), (oa, .inl (cy 3, 1, .inr (.inl og)))] sz)) (zx_X (fun _ => False) (va_A [(h, .inr (13, [.ref pe, .ref ne, .ref pa, .ref ro, .int dy])), (pe, .inr (9, [.int 0, .ref a1, .ref a2, .ref a3, .ref a4, .ref a5, .ref a6, .ref a7, .ref a8, .ref a9])), (a1, .inl (cy 0, 20, .inl f1)), (a2, .inl (cy 0, 20, .inl f2)), (oa, .inl (cy 3, 1, .inr (.inl og)))] sz)) 1 6 (va_A [(h, .inr (13, [.ref pe, .ref ne, .ref pa, .ref ro, .int dy])), (pe, .inr (9, [.int 0, .ref a1, .ref a2, .ref a3, .ref a4, .ref a5, .ref a6, .ref a7, .ref a8, .ref a9])), (a1, .inl (cy 0, 20, .inl f1)), (a2, .inl (cy 0, 20, .inl f2)), (oa, .inl (cy 3, 1, .inr (.inl og)))] sz) := by
  refine vx_ofWH (cc := cL_addPerson) (maxL := 5) (ret := (some .int)) (hh := [(0, 10, 13, 13), (0, 10, 17, 15)]) (by decide) rfl ?_
  intro p e s m args below meth c s₁ B hml hv
  have htb := vx_table (x := objectInit) B (atoms_spec (ws := wzL_addPerson) B.pre _ List.mem_cons_self)
  obtain ⟨rfl, hsz, hP, hK, hD0, hZ, hN⟩ := hv
  have hx := B.exec
  have hb := B.bytes
  have hr := B.returns
  have hts := atoms_spec (ws := wzL_addPerson) B.pre
  have hown : s.vm.findClass RL = some m.cls := findClass_of_methodNamed B.named
  have hlocks := B.notSynchronized
  subst hsz
  have hD := hD0.self (sz := s.heap.size)
  generalize hAe : va_A [(h, .inr (13, [.ref pe, .ref ne, .ref pa, .ref ro, .int dy])), (pe, .inr (9, [.int 0, .ref a1, .ref a2, .ref a3, .ref a4, .ref a5, .ref a6, .ref a7, .ref a8, .ref a9])), (a1, .inl (cy 0, 20, .inl f1)), (a2, .inl (cy 0, 20, .inl f2)), (oa, .inl (cy 3, 1, .inr (.inl og)))] s.heap.size = A at hD hZ ⊢
  have hA : ∀ q : Nat, s.heap.size ≤ q → A q := fun q h => by rw [← hAe]; exact Or.inr h
  have hS : va_S A s.heap s.heap [] := va_S.rf
  have hP : va_P D vwCl [(h, .inr (13, [.ref pe, .ref ne, .ref pa, .ref ro, .int dy])), (pe, .inr (9, [.int 0, .ref a1, .ref a2, .ref a3, .ref a4, .ref a5, .ref a6, .ref a7, .ref a8, .ref a9])), (a1, .inl (cy 0, 20, .inl f1)), (a2, .inl (cy 0, 20, .inl f2)), (oa, .inl (cy 3, 1, .inr (.inl og)))] s.heap := hP
  have hl := lv_entry ([.ref h, .int p0, .int p1, .ref oa]) (n := 5) (Nat.le_of_ble_eq_true rfl)
  rw [lg_entry_eq]
  generalize (lg_sl ([.ref h, .int p0, .int p1, .ref oa]) ++ List.replicate (5 - (lg_sl ([.ref h, .int p0, .int p1, .ref oa])).length) Slot.unset).toArray = ls at hl ⊢
  have hl : lv_has ls 5 [(0, .ref h), (1, .int p0), (2, .int p1), (3, .ref oa)] := hl
  refine lv_aload_n hx hb dL_addPerson_0 rfl (lv_at hl 3 rfl) ?_
  refine lv_iconst (v := 0) hx hb dL_addPerson_1 (by decide) ?_
  refine lv_aload_n hx hb dL_addPerson_2 rfl (lv_at hl 0 rfl) ?_
  refine lv_iload_n hx hb dL_addPerson_3 rfl (lv_at hl 1 rfl) ?_
  refine lv_iload_n hx hb dL_addPerson_4 rfl (lv_at hl 2 rfl) ?_
  have hPc := hP.sub (ws' := [(h, .inr (13, [.ref pe, .ref ne, .ref pa, .ref ro, .int dy])), (pe, .inr (9, [.int 0, .ref a1, .ref a2, .ref a3, .ref a4, .ref a5, .ref a6, .ref a7, .ref a8, .ref a9])), (a1, .inl (cy 0, 20, .inl f1)), (a2, .inl (cy 0, 20, .inl f2))]) [0, 1, 2, 3] rfl
  have hDc := hD.sub (ws' := [(h, .inr (13, [.ref pe, .ref ne, .ref pa, .ref ro, .int dy])), (pe, .inr (9, [.int 0, .ref a1, .ref a2, .ref a3, .ref a4, .ref a5, .ref a6, .ref a7, .ref a8, .ref a9])), (a1, .inl (cy 0, 20, .inl f1)), (a2, .inl (cy 0, 20, .inl f2))]) [0, 1, 2, 3] (by decide) rfl
  have hFc := va_free (wc := [(h, .inr (13, [.ref pe, .ref ne, .ref pa, .ref ro, .int dy])), (pe, .inr (9, [.int 0, .ref a1, .ref a2, .ref a3, .ref a4, .ref a5, .ref a6, .ref a7, .ref a8, .ref a9])), (a1, .inl (cy 0, 20, .inl f1)), (a2, .inl (cy 0, 20, .inl f2))]) hD hS hA [0, 1, 2, 3] rfl
  refine vx_calli (vx_runV (As := [.int p0, .int p1]) (rest := [.int 0, .ref oa]) ⟨hx, hb, hml, hown, hts⟩ (c_X8_addPerson l hst D cy ed s.heap.size h pe ne pa ro dy a1 a2 a3 a4 a5 a6 a7 a8 a9 f1 f2 p0 p1) (cwV 2 hts (zx_GV mm_334 mm_335 mm_336 mm_71 mm_337) rfl rfl rfl (by decide +kernel) ⟨(Nat.le_of_ble_eq_true rfl), (Nat.le_of_ble_eq_true rfl)⟩) ⟨zx_blind, va_recv hK hPc (ci := 13) (q0 := 0) rfl rfl, zx_give hPc hK hDc hS hFc hZ hN⟩ rfl rfl hl.1 rfl (lv_room (Nat.le_of_ble_eq_true rfl)) dL_addPerson_5 ⟨(Nat.le_of_ble_eq_true rfl), (Nat.le_of_ble_eq_true rfl)⟩) hS (fun q _ h => hFc q h) hFc (fun q _ h => hFc q h) (fun E9 ce9 q9 _ t H locs ht hvm _ hBX hz1 hk1 hS hce hcv hcl => ?_) (fun r9 u t H locs ht hvm hw hB hz1 hk1 hS => ?_)
  · have hBX : (fun E9 => (E9 = "java/lang/IllegalArgumentException" ∧ k_addPerson p0 p1 = 1)) E9 := hBX
    obtain ⟨rfl, hc9⟩ := hBX
    refine vx_catch hown [] { startPc := 0, endPc := 10, handlerPc := 13, catchType := 13 } [({ startPc := 0, endPc := 10, handlerPc := 17, catchType := 15 } : ExceptionTableEntry)] (by rw [htb]; rfl) (fun z9 h9 => absurd h9 List.not_mem_nil) (by decide) (by decide) (hts (.classLink RL 13 "java/lang/IllegalArgumentException") (zx_Gc mm_332)) (zx_cast_moved (Vm.Alike.refl _) (hN.2.2.1 _ _ (List.mem_of_getElem? (i := 344) (by decide +kernel)))) hce hcv hcl ?_
    obtain ⟨hP, hD⟩ := va_join (wr := [(oa, .inl (cy 3, 1, .inr (.inl og)))]) (w1 := []) hP hD [0, 1, 2, 3] [4] rfl rfl (by decide) (by decide) hk1 hFc zx_P0 zx_D0
    have hP : va_P D vwCl [(oa, .inl (cy 3, 1, .inr (.inl og)))] H := hP
    have hD : va_D A [(oa, .inl (cy 3, 1, .inr (.inl og)))] := hD
    refine W.widen (k := 1) (n := 6) (Nat.le_of_ble_eq_true rfl) (Nat.le_of_ble_eq_true rfl) ?_
    refine lv_astore (lv' := [(4, .ref q9), (0, .ref h), (1, .int p0), (2, .int p1), (3, .ref oa)]) hx hb dL_addPerson_13 hl (by decide) rfl (fun ls hl => ?_)
    refine lv_iconst (v := 1) hx hb dL_addPerson_15 (by decide) ?_
    have hP9 := hP.sub (ws' := [(oa, .inl (cy 3, 1, .inr (.inl og)))]) [0] rfl
    have hD9 := hD.sub (ws' := [(oa, .inl (cy 3, 1, .inr (.inl og)))]) [0] (by decide) rfl
    refine vx_ret ?_
    exact W.iret (v := 1) hx hb hr (fun t ht hW => ⟨⟨1, og, rfl, ⟨hc9.symm, (fun h9 => absurd (hc9.symm.trans h9) (by decide))⟩, zx_fin hP9 hD9 hK ht hW⟩, hS.F ht⟩) hS.2.2 dL_addPerson_16
  ·
    obtain ⟨rfl, h_213⟩ := hw
    obtain ⟨hP, hD⟩ := zx_join (wr := [(oa, .inl (cy 3, 1, .inr (.inl og)))]) (w1 := []) [0, 1, 2, 3] [4] rfl rfl (by decide) (by decide) hP hD hk1 hFc hB ht
    have hP : va_P D vwCl [(oa, .inl (cy 3, 1, .inr (.inl og)))] H := hP
    have hD : va_D A [(oa, .inl (cy 3, 1, .inr (.inl og)))] := hD
    refine W.widen (k := 1) (n := 6) (Nat.le_of_ble_eq_true rfl) (Nat.le_of_ble_eq_true rfl) ?_
    refine lv_i2l (v := 0) hx hb dL_addPerson_8 rfl ?_
    refine va_last hx hb hK hP hD hS 0 3 rfl rfl (zx_bn (by decide)) dL_addPerson_9 (fun H locs hP hD hS => ?_)
    have hP : va_P D vwCl [(oa, .inl (cy 3, 1, .inr (.inl (vp_updL og (0 : Int32).toNatClampNeg 0))))] H := hP
    have hD : va_D A [(oa, .inl (cy 3, 1, .inr (.inl (vp_updL og (0 : Int32).toNatClampNeg 0))))] := hD
    refine lv_goto (tgt := 21) hx hb dL_addPerson_10 (by decide) ?_
    refine lv_iconst (v := 0) hx hb dL_addPerson_21 (by decide) ?_
    have hP9 := hP.sub (ws' := [(oa, .inl (cy 3, 1, .inr (.inl (vp_updL og (0 : Int32).toNatClampNeg 0))))]) [0] rfl
    have hD9 := hD.sub (ws' := [(oa, .inl (cy 3, 1, .inr (.inl (vp_updL og (0 : Int32).toNatClampNeg 0))))]) [0] (by decide) rfl
    refine vx_ret ?_
    exact W.iret (v := 0) hx hb hr (fun t ht hW => ⟨⟨0, (vp_updL og (0 : Int32).toNatClampNeg 0), rfl, ⟨h_213.symm, (fun _ => rfl)⟩, zx_fin hP9 hD9 hK ht hW⟩, hS.F ht⟩) hS.2.2 dL_addPerson_22
set_option maxHeartbeats 4000000 in
set_option maxRecDepth 100000 in
theorem c_L_tie (l : Launch) (hst : l.stackTraces = false) (D : va_G) (cy : Nat → ClassId) (ed sz : Nat) (h : Nat) (pe : Nat) (ne : Nat) (pa : Nat) (ro : Nat) (dy : Int32) (n1 : Nat) (n2 : Nat) (n3 : Nat) (n4 : Nat) (n5 : Nat) (oa : Nat) (og : Nat → Int64) (p0 : Int32) (p1 : Int32) : vx_Met l yL_tie wzL_tie ({ frames := 8, cells := 4, slots := 24, locals := 123 }) (zx_Pc D cy ed sz [.ref h, .int p0, .int p1, .ref oa] [(h, .inr (13, [.ref pe, .ref ne, .ref pa, .ref ro, .int dy])), (ne, .inr (6, [.ref n1, .ref n2, .ref n3, .ref n4, .ref n5])), (n1, .inl (cy 0, 8, .inl (fun _ => 0))), (oa, .inl (cy 3, 1, .inr (.inl og)))]) (va_Qi (fun (r9 : Int32) (u9 : Nat → Int64) => match u9 with | o2 => r9 = (k_tie p0 p1) ∧ (k_tie p0 p1 = 0 → o2 0 = 1)) (fun (u9 : Nat → Int64) (t9 : State) => match u9 with | o2 => zx_At D cy (va_A [(h, .inr (13, [.ref pe, .ref ne, .ref pa, .ref ro, .int dy])), (ne, .inr (6, [.ref n1, .ref n2, .ref n3, .ref n4, .ref n5])), (n1, .inl (cy 0, 8, .inl (fun _ => 0))), (oa, .inl (cy 3, 1, .inr (.inl og)))] sz) [(oa, .inl (cy 3, 1, .inr (.inl o2)))] t9) (va_A [(h, .inr (13, [.ref pe, .ref ne, .ref pa, .ref ro, .int dy])), (ne, .inr (6, [.ref n1, .ref n2, .ref n3, .ref n4, .ref n5])), (n1, .inl (cy 0, 8, .inl (fun _ => 0))), (oa, .inl (cy 3, 1, .inr (.inl og)))] sz)) (zx_X (fun _ => False) (va_A [(h, .inr (13, [.ref pe, .ref ne, .ref pa, .ref ro, .int dy])), (ne, .inr (6, [.ref n1, .ref n2, .ref n3, .ref n4, .ref n5])), (n1, .inl (cy 0, 8, .inl (fun _ => 0))), (oa, .inl (cy 3, 1, .inr (.inl og)))] sz)) 4 24 (va_A [(h, .inr (13, [.ref pe, .ref ne, .ref pa, .ref ro, .int dy])), (ne, .inr (6, [.ref n1, .ref n2, .ref n3, .ref n4, .ref n5])), (n1, .inl (cy 0, 8, .inl (fun _ => 0))), (oa, .inl (cy 3, 1, .inr (.inl og)))] sz) := by
  refine vx_ofWH (cc := cL_tie) (maxL := 5) (ret := (some .int)) (hh := [(0, 17, 20, 13)]) (by decide) rfl ?_
  intro p e s m args below meth c s₁ B hml hv
  have htb := vx_table (x := objectInit) B (atoms_spec (ws := wzL_tie) B.pre _ List.mem_cons_self)
  obtain ⟨rfl, hsz, hP, hK, hD0, hZ, hN⟩ := hv
  have hx := B.exec
  have hb := B.bytes
  have hr := B.returns
  have hts := atoms_spec (ws := wzL_tie) B.pre
  have hown : s.vm.findClass RL = some m.cls := findClass_of_methodNamed B.named
  have hlocks := B.notSynchronized
  subst hsz
  have hD := hD0.self (sz := s.heap.size)
  generalize hAe : va_A [(h, .inr (13, [.ref pe, .ref ne, .ref pa, .ref ro, .int dy])), (ne, .inr (6, [.ref n1, .ref n2, .ref n3, .ref n4, .ref n5])), (n1, .inl (cy 0, 8, .inl (fun _ => 0))), (oa, .inl (cy 3, 1, .inr (.inl og)))] s.heap.size = A at hD hZ ⊢
  have hA : ∀ q : Nat, s.heap.size ≤ q → A q := fun q h => by rw [← hAe]; exact Or.inr h
  have hS : va_S A s.heap s.heap [] := va_S.rf
  have hP : va_P D vwCl [(h, .inr (13, [.ref pe, .ref ne, .ref pa, .ref ro, .int dy])), (ne, .inr (6, [.ref n1, .ref n2, .ref n3, .ref n4, .ref n5])), (n1, .inl (cy 0, 8, .inl (fun _ => 0))), (oa, .inl (cy 3, 1, .inr (.inl og)))] s.heap := hP
  have hl := lv_entry ([.ref h, .int p0, .int p1, .ref oa]) (n := 5) (Nat.le_of_ble_eq_true rfl)
  rw [lg_entry_eq]
  generalize (lg_sl ([.ref h, .int p0, .int p1, .ref oa]) ++ List.replicate (5 - (lg_sl ([.ref h, .int p0, .int p1, .ref oa])).length) Slot.unset).toArray = ls at hl ⊢
  have hl : lv_has ls 5 [(0, .ref h), (1, .int p0), (2, .int p1), (3, .ref oa)] := hl
  refine lv_aload_n hx hb dL_tie_0 rfl (lv_at hl 3 rfl) ?_
  refine lv_iconst (v := 0) hx hb dL_tie_1 (by decide) ?_
  refine lv_aload_n hx hb dL_tie_2 rfl (lv_at hl 0 rfl) ?_
  refine lv_iload_n hx hb dL_tie_3 rfl (lv_at hl 1 rfl) ?_
  refine lv_iload_n hx hb dL_tie_4 rfl (lv_at hl 2 rfl) ?_
  have hPc := hP.sub (ws' := [(h, .inr (13, [.ref pe, .ref ne, .ref pa, .ref ro, .int dy])), (ne, .inr (6, [.ref n1, .ref n2, .ref n3, .ref n4, .ref n5])), (n1, .inl (cy 0, 8, .inl (fun _ => 0)))]) [0, 1, 2] rfl
  have hDc := hD.sub (ws' := [(h, .inr (13, [.ref pe, .ref ne, .ref pa, .ref ro, .int dy])), (ne, .inr (6, [.ref n1, .ref n2, .ref n3, .ref n4, .ref n5])), (n1, .inl (cy 0, 8, .inl (fun _ => 0)))]) [0, 1, 2] (by decide) rfl
  have hFc := va_free (wc := [(h, .inr (13, [.ref pe, .ref ne, .ref pa, .ref ro, .int dy])), (ne, .inr (6, [.ref n1, .ref n2, .ref n3, .ref n4, .ref n5])), (n1, .inl (cy 0, 8, .inl (fun _ => 0)))]) hD hS hA [0, 1, 2] rfl
  refine vx_calli (vx_runV (As := [.int p0, .int p1]) (rest := [.int 0, .ref oa]) ⟨hx, hb, hml, hown, hts⟩ (c_X8_tie l hst D cy ed s.heap.size h pe ne pa ro dy n1 n2 n3 n4 n5 p0 p1) (cwV 2 hts (zx_GV mm_541 mm_542 mm_543 mm_71 mm_544) rfl rfl rfl (by decide +kernel) ⟨(Nat.le_of_ble_eq_true rfl), (Nat.le_of_ble_eq_true rfl)⟩) ⟨zx_blind, va_recv hK hPc (ci := 13) (q0 := 0) rfl rfl, zx_give hPc hK hDc hS hFc hZ hN⟩ rfl rfl hl.1 rfl (lv_room (Nat.le_of_ble_eq_true rfl)) dL_tie_5 ⟨(Nat.le_of_ble_eq_true rfl), (Nat.le_of_ble_eq_true rfl)⟩) hS (fun q _ h => hFc q h) hFc (fun q _ h => hFc q h) (fun E9 ce9 q9 _ t H locs ht hvm _ hBX hz1 hk1 hS hce hcv hcl => ?_) (fun r9 u t H locs ht hvm hw hB hz1 hk1 hS => ?_)
  · have hBX : (fun E9 => (E9 = "java/lang/IllegalArgumentException" ∧ k_tie p0 p1 = 1)) E9 := hBX
    obtain ⟨rfl, hc9⟩ := hBX
    refine vx_catch hown [] { startPc := 0, endPc := 17, handlerPc := 20, catchType := 13 } [] (by rw [htb]; rfl) (fun z9 h9 => absurd h9 List.not_mem_nil) (by decide) (by decide) (hts (.classLink RL 13 "java/lang/IllegalArgumentException") (zx_Gc mm_332)) (zx_cast_moved (Vm.Alike.refl _) (hN.2.2.1 _ _ (List.mem_of_getElem? (i := 344) (by decide +kernel)))) hce hcv hcl ?_
    obtain ⟨hP, hD⟩ := va_join (wr := [(oa, .inl (cy 3, 1, .inr (.inl og)))]) (w1 := []) hP hD [0, 1, 2] [3] rfl rfl (by decide) (by decide) hk1 hFc zx_P0 zx_D0
    have hP : va_P D vwCl [(oa, .inl (cy 3, 1, .inr (.inl og)))] H := hP
    have hD : va_D A [(oa, .inl (cy 3, 1, .inr (.inl og)))] := hD
    refine W.widen (k := 4) (n := 24) (Nat.le_of_ble_eq_true rfl) (Nat.le_of_ble_eq_true rfl) ?_
    refine lv_astore (lv' := [(4, .ref q9), (0, .ref h), (1, .int p0), (2, .int p1), (3, .ref oa)]) hx hb dL_tie_20 hl (by decide) rfl (fun ls hl => ?_)
    refine lv_iconst (v := 1) hx hb dL_tie_22 (by decide) ?_
    have hP9 := hP.sub (ws' := [(oa, .inl (cy 3, 1, .inr (.inl og)))]) [0] rfl
    have hD9 := hD.sub (ws' := [(oa, .inl (cy 3, 1, .inr (.inl og)))]) [0] (by decide) rfl
    refine vx_ret ?_
    exact W.iret (v := 1) hx hb hr (fun t ht hW => ⟨⟨1, og, rfl, ⟨hc9.symm, (fun h9 => absurd (hc9.symm.trans h9) (by decide))⟩, zx_fin hP9 hD9 hK ht hW⟩, hS.F ht⟩) hS.2.2 dL_tie_23
  ·
    obtain ⟨rfl, h_214⟩ := hw
    obtain ⟨hP, hD⟩ := zx_join (wr := [(oa, .inl (cy 3, 1, .inr (.inl og)))]) (w1 := []) [0, 1, 2] [3] rfl rfl (by decide) (by decide) hP hD hk1 hFc hB ht
    have hP : va_P D vwCl [(oa, .inl (cy 3, 1, .inr (.inl og)))] H := hP
    have hD : va_D A [(oa, .inl (cy 3, 1, .inr (.inl og)))] := hD
    refine W.widen (k := 4) (n := 24) (Nat.le_of_ble_eq_true rfl) (Nat.le_of_ble_eq_true rfl) ?_
    refine lv_if_eq (tgt := 15) hx hb dL_tie_8 (by decide) (fun c_215 => absurd c_215 (by decide)) (fun _ => ?_)
    refine lv_lconst (v := 1) hx hb dL_tie_11 (by decide) ?_
    refine lv_goto (tgt := 16) hx hb dL_tie_12 (by decide) ?_
    refine va_last hx hb hK hP hD hS 0 3 rfl rfl (zx_bn (by decide)) dL_tie_16 (fun H locs hP hD hS => ?_)
    have hP : va_P D vwCl [(oa, .inl (cy 3, 1, .inr (.inl (vp_updL og (0 : Int32).toNatClampNeg 1))))] H := hP
    have hD : va_D A [(oa, .inl (cy 3, 1, .inr (.inl (vp_updL og (0 : Int32).toNatClampNeg 1))))] := hD
    refine lv_goto (tgt := 24) hx hb dL_tie_17 (by decide) ?_
    refine lv_iconst (v := 0) hx hb dL_tie_24 (by decide) ?_
    have hP9 := hP.sub (ws' := [(oa, .inl (cy 3, 1, .inr (.inl (vp_updL og (0 : Int32).toNatClampNeg 1))))]) [0] rfl
    have hD9 := hD.sub (ws' := [(oa, .inl (cy 3, 1, .inr (.inl (vp_updL og (0 : Int32).toNatClampNeg 1))))]) [0] (by decide) rfl
    refine vx_ret ?_
    exact W.iret (v := 0) hx hb hr (fun t ht hW => ⟨⟨0, (vp_updL og (0 : Int32).toNatClampNeg 1), rfl, ⟨h_214.symm, (fun _ => rfl)⟩, zx_fin hP9 hD9 hK ht hW⟩, hS.F ht⟩) hS.2.2 dL_tie_25
set_option maxHeartbeats 4000000 in
set_option maxRecDepth 100000 in
theorem c_L_distance (l : Launch) (hst : l.stackTraces = false) (D : va_G) (cy : Nat → ClassId) (ed sz : Nat) (h : Nat) (pe : Nat) (ne : Nat) (pa : Nat) (ro : Nat) (dy : Int32) (n1 : Nat) (n2 : Nat) (n3 : Nat) (n4 : Nat) (n5 : Nat) (oa : Nat) (og : Nat → Int64) (p0 : Int32) (p1 : Int32) : vx_Met l yL_distance wzL_distance ({ frames := 8, cells := 4, slots := 24, locals := 123 }) (zx_Pc D cy ed sz [.ref h, .int p0, .int p1, .ref oa] [(h, .inr (13, [.ref pe, .ref ne, .ref pa, .ref ro, .int dy])), (ne, .inr (6, [.ref n1, .ref n2, .ref n3, .ref n4, .ref n5])), (n1, .inl (cy 0, 8, .inl (fun _ => 0))), (oa, .inl (cy 3, 1, .inr (.inl og)))]) (va_Qi (fun (r9 : Int32) (u9 : Nat → Int64) => match u9 with | o2 => r9 = (k_distance p0 p1) ∧ (k_distance p0 p1 = 0 → o2 0 = (zx_near ((1 : Int32) <<< (p0 &&& 31)) p1).toInt64)) (fun (u9 : Nat → Int64) (t9 : State) => match u9 with | o2 => zx_At D cy (va_A [(h, .inr (13, [.ref pe, .ref ne, .ref pa, .ref ro, .int dy])), (ne, .inr (6, [.ref n1, .ref n2, .ref n3, .ref n4, .ref n5])), (n1, .inl (cy 0, 8, .inl (fun _ => 0))), (oa, .inl (cy 3, 1, .inr (.inl og)))] sz) [(oa, .inl (cy 3, 1, .inr (.inl o2)))] t9) (va_A [(h, .inr (13, [.ref pe, .ref ne, .ref pa, .ref ro, .int dy])), (ne, .inr (6, [.ref n1, .ref n2, .ref n3, .ref n4, .ref n5])), (n1, .inl (cy 0, 8, .inl (fun _ => 0))), (oa, .inl (cy 3, 1, .inr (.inl og)))] sz)) (zx_X (fun _ => False) (va_A [(h, .inr (13, [.ref pe, .ref ne, .ref pa, .ref ro, .int dy])), (ne, .inr (6, [.ref n1, .ref n2, .ref n3, .ref n4, .ref n5])), (n1, .inl (cy 0, 8, .inl (fun _ => 0))), (oa, .inl (cy 3, 1, .inr (.inl og)))] sz)) 4 24 (va_A [(h, .inr (13, [.ref pe, .ref ne, .ref pa, .ref ro, .int dy])), (ne, .inr (6, [.ref n1, .ref n2, .ref n3, .ref n4, .ref n5])), (n1, .inl (cy 0, 8, .inl (fun _ => 0))), (oa, .inl (cy 3, 1, .inr (.inl og)))] sz) := by
  refine vx_ofWH (cc := cL_distance) (maxL := 5) (ret := (some .int)) (hh := [(0, 10, 13, 13)]) (by decide) rfl ?_
  intro p e s m args below meth c s₁ B hml hv
  have htb := vx_table (x := objectInit) B (atoms_spec (ws := wzL_distance) B.pre _ List.mem_cons_self)
  obtain ⟨rfl, hsz, hP, hK, hD0, hZ, hN⟩ := hv
  have hx := B.exec
  have hb := B.bytes
  have hr := B.returns
  have hts := atoms_spec (ws := wzL_distance) B.pre
  have hown : s.vm.findClass RL = some m.cls := findClass_of_methodNamed B.named
  have hlocks := B.notSynchronized
  subst hsz
  have hD := hD0.self (sz := s.heap.size)
  generalize hAe : va_A [(h, .inr (13, [.ref pe, .ref ne, .ref pa, .ref ro, .int dy])), (ne, .inr (6, [.ref n1, .ref n2, .ref n3, .ref n4, .ref n5])), (n1, .inl (cy 0, 8, .inl (fun _ => 0))), (oa, .inl (cy 3, 1, .inr (.inl og)))] s.heap.size = A at hD hZ ⊢
  have hA : ∀ q : Nat, s.heap.size ≤ q → A q := fun q h => by rw [← hAe]; exact Or.inr h
  have hS : va_S A s.heap s.heap [] := va_S.rf
  have hP : va_P D vwCl [(h, .inr (13, [.ref pe, .ref ne, .ref pa, .ref ro, .int dy])), (ne, .inr (6, [.ref n1, .ref n2, .ref n3, .ref n4, .ref n5])), (n1, .inl (cy 0, 8, .inl (fun _ => 0))), (oa, .inl (cy 3, 1, .inr (.inl og)))] s.heap := hP
  have hl := lv_entry ([.ref h, .int p0, .int p1, .ref oa]) (n := 5) (Nat.le_of_ble_eq_true rfl)
  rw [lg_entry_eq]
  generalize (lg_sl ([.ref h, .int p0, .int p1, .ref oa]) ++ List.replicate (5 - (lg_sl ([.ref h, .int p0, .int p1, .ref oa])).length) Slot.unset).toArray = ls at hl ⊢
  have hl : lv_has ls 5 [(0, .ref h), (1, .int p0), (2, .int p1), (3, .ref oa)] := hl
  refine lv_aload_n hx hb dL_distance_0 rfl (lv_at hl 3 rfl) ?_
  refine lv_iconst (v := 0) hx hb dL_distance_1 (by decide) ?_
  refine lv_aload_n hx hb dL_distance_2 rfl (lv_at hl 0 rfl) ?_
  refine lv_iload_n hx hb dL_distance_3 rfl (lv_at hl 1 rfl) ?_
  refine lv_iload_n hx hb dL_distance_4 rfl (lv_at hl 2 rfl) ?_
  have hPc := hP.sub (ws' := [(h, .inr (13, [.ref pe, .ref ne, .ref pa, .ref ro, .int dy])), (ne, .inr (6, [.ref n1, .ref n2, .ref n3, .ref n4, .ref n5])), (n1, .inl (cy 0, 8, .inl (fun _ => 0)))]) [0, 1, 2] rfl
  have hDc := hD.sub (ws' := [(h, .inr (13, [.ref pe, .ref ne, .ref pa, .ref ro, .int dy])), (ne, .inr (6, [.ref n1, .ref n2, .ref n3, .ref n4, .ref n5])), (n1, .inl (cy 0, 8, .inl (fun _ => 0)))]) [0, 1, 2] (by decide) rfl
  have hFc := va_free (wc := [(h, .inr (13, [.ref pe, .ref ne, .ref pa, .ref ro, .int dy])), (ne, .inr (6, [.ref n1, .ref n2, .ref n3, .ref n4, .ref n5])), (n1, .inl (cy 0, 8, .inl (fun _ => 0)))]) hD hS hA [0, 1, 2] rfl
  refine vx_calli (vx_runV (As := [.int p0, .int p1]) (rest := [.int 0, .ref oa]) ⟨hx, hb, hml, hown, hts⟩ (c_X8_distance l hst D cy ed s.heap.size h pe ne pa ro dy n1 n2 n3 n4 n5 p0 p1) (cwV 2 hts (zx_GV mm_553 mm_554 mm_555 mm_71 mm_556) rfl rfl rfl (by decide +kernel) ⟨(Nat.le_of_ble_eq_true rfl), (Nat.le_of_ble_eq_true rfl)⟩) ⟨zx_blind, va_recv hK hPc (ci := 13) (q0 := 0) rfl rfl, zx_give hPc hK hDc hS hFc hZ hN⟩ rfl rfl hl.1 rfl (lv_room (Nat.le_of_ble_eq_true rfl)) dL_distance_5 ⟨(Nat.le_of_ble_eq_true rfl), (Nat.le_of_ble_eq_true rfl)⟩) hS (fun q _ h => hFc q h) hFc (fun q _ h => hFc q h) (fun E9 ce9 q9 _ t H locs ht hvm _ hBX hz1 hk1 hS hce hcv hcl => ?_) (fun r9 u t H locs ht hvm hw hB hz1 hk1 hS => ?_)
  · have hBX : (fun E9 => (E9 = "java/lang/IllegalArgumentException" ∧ k_distance p0 p1 = 1)) E9 := hBX
    obtain ⟨rfl, hc9⟩ := hBX
    refine vx_catch hown [] { startPc := 0, endPc := 10, handlerPc := 13, catchType := 13 } [] (by rw [htb]; rfl) (fun z9 h9 => absurd h9 List.not_mem_nil) (by decide) (by decide) (hts (.classLink RL 13 "java/lang/IllegalArgumentException") (zx_Gc mm_332)) (zx_cast_moved (Vm.Alike.refl _) (hN.2.2.1 _ _ (List.mem_of_getElem? (i := 344) (by decide +kernel)))) hce hcv hcl ?_
    obtain ⟨hP, hD⟩ := va_join (wr := [(oa, .inl (cy 3, 1, .inr (.inl og)))]) (w1 := []) hP hD [0, 1, 2] [3] rfl rfl (by decide) (by decide) hk1 hFc zx_P0 zx_D0
    have hP : va_P D vwCl [(oa, .inl (cy 3, 1, .inr (.inl og)))] H := hP
    have hD : va_D A [(oa, .inl (cy 3, 1, .inr (.inl og)))] := hD
    refine W.widen (k := 4) (n := 24) (Nat.le_of_ble_eq_true rfl) (Nat.le_of_ble_eq_true rfl) ?_
    refine lv_astore (lv' := [(4, .ref q9), (0, .ref h), (1, .int p0), (2, .int p1), (3, .ref oa)]) hx hb dL_distance_13 hl (by decide) rfl (fun ls hl => ?_)
    refine lv_iconst (v := 1) hx hb dL_distance_15 (by decide) ?_
    have hP9 := hP.sub (ws' := [(oa, .inl (cy 3, 1, .inr (.inl og)))]) [0] rfl
    have hD9 := hD.sub (ws' := [(oa, .inl (cy 3, 1, .inr (.inl og)))]) [0] (by decide) rfl
    refine vx_ret ?_
    exact W.iret (v := 1) hx hb hr (fun t ht hW => ⟨⟨1, og, rfl, ⟨hc9.symm, (fun h9 => absurd (hc9.symm.trans h9) (by decide))⟩, zx_fin hP9 hD9 hK ht hW⟩, hS.F ht⟩) hS.2.2 dL_distance_16
  ·
    obtain ⟨rfl, h_216⟩ := hw
    obtain ⟨hP, hD⟩ := zx_join (wr := [(oa, .inl (cy 3, 1, .inr (.inl og)))]) (w1 := []) [0, 1, 2] [3] rfl rfl (by decide) (by decide) hP hD hk1 hFc hB ht
    have hP : va_P D vwCl [(oa, .inl (cy 3, 1, .inr (.inl og)))] H := hP
    have hD : va_D A [(oa, .inl (cy 3, 1, .inr (.inl og)))] := hD
    refine W.widen (k := 4) (n := 24) (Nat.le_of_ble_eq_true rfl) (Nat.le_of_ble_eq_true rfl) ?_
    refine lv_i2l (v := (zx_near ((1 : Int32) <<< (p0 &&& 31)) p1).toInt64) hx hb dL_distance_8 rfl ?_
    refine va_last hx hb hK hP hD hS 0 3 rfl rfl (zx_bn (by decide)) dL_distance_9 (fun H locs hP hD hS => ?_)
    have hP : va_P D vwCl [(oa, .inl (cy 3, 1, .inr (.inl (vp_updL og (0 : Int32).toNatClampNeg ((zx_near ((1 : Int32) <<< (p0 &&& 31)) p1).toInt64)))))] H := hP
    have hD : va_D A [(oa, .inl (cy 3, 1, .inr (.inl (vp_updL og (0 : Int32).toNatClampNeg ((zx_near ((1 : Int32) <<< (p0 &&& 31)) p1).toInt64)))))] := hD
    refine lv_goto (tgt := 17) hx hb dL_distance_10 (by decide) ?_
    refine lv_iconst (v := 0) hx hb dL_distance_17 (by decide) ?_
    have hP9 := hP.sub (ws' := [(oa, .inl (cy 3, 1, .inr (.inl (vp_updL og (0 : Int32).toNatClampNeg ((zx_near ((1 : Int32) <<< (p0 &&& 31)) p1).toInt64)))))]) [0] rfl
    have hD9 := hD.sub (ws' := [(oa, .inl (cy 3, 1, .inr (.inl (vp_updL og (0 : Int32).toNatClampNeg ((zx_near ((1 : Int32) <<< (p0 &&& 31)) p1).toInt64)))))]) [0] (by decide) rfl
    refine vx_ret ?_
    exact W.iret (v := 0) hx hb hr (fun t ht hW => ⟨⟨0, (vp_updL og (0 : Int32).toNatClampNeg ((zx_near ((1 : Int32) <<< (p0 &&& 31)) p1).toInt64)), rfl, ⟨h_216.symm, (fun _ => rfl)⟩, zx_fin hP9 hD9 hK ht hW⟩, hS.F ht⟩) hS.2.2 dL_distance_18
set_option maxHeartbeats 4000000 in
set_option maxRecDepth 100000 in
theorem c_L_setRules (l : Launch) (hst : l.stackTraces = false) (D : va_G) (cy : Nat → ClassId) (ed sz : Nat) (h : Nat) (pe : Nat) (ne : Nat) (pa : Nat) (ro : Nat) (dy : Int32) (n1 : Nat) (n2 : Nat) (n3 : Nat) (n4 : Nat) (n5 : Nat) (f1 : Nat → Int32) (f2 : Nat → Int32) (f3 : Nat → Int32) (f4 : Nat → Int32) (f5 : Nat → Int32) (oa : Nat) (og : Nat → Int64) (p0 : Int32) (p1 : Int32) (p2 : Int32) (p3 : Int32) (p4 : Int32) (hw9 : ∀ j, j < 8 → f5 j = 115) : vx_Met l yL_setRules wzL_setRules ({ frames := 8, cells := 4, slots := 24, locals := 127 }) (zx_Pc D cy ed sz [.ref h, .int p0, .int p1, .int p2, .int p3, .int p4, .ref oa] [(h, .inr (13, [.ref pe, .ref ne, .ref pa, .ref ro, .int dy])), (ne, .inr (6, [.ref n1, .ref n2, .ref n3, .ref n4, .ref n5])), (n1, .inl (cy 0, 8, .inl f1)), (n2, .inl (cy 0, 8, .inl f2)), (n3, .inl (cy 0, 8, .inl f3)), (n4, .inl (cy 0, 8, .inl f4)), (n5, .inl (cy 1, 8, .inl f5)), (oa, .inl (cy 3, 1, .inr (.inl og)))]) (va_Qi (fun (r9 : Int32) (u9 : Nat → Int64) => match u9 with | o2 => r9 = (k_setRules p0 p1 p2 p3 p4) ∧ (k_setRules p0 p1 p2 p3 p4 = 0 → o2 0 = 115)) (fun (u9 : Nat → Int64) (t9 : State) => match u9 with | o2 => zx_At D cy (va_A [(h, .inr (13, [.ref pe, .ref ne, .ref pa, .ref ro, .int dy])), (ne, .inr (6, [.ref n1, .ref n2, .ref n3, .ref n4, .ref n5])), (n1, .inl (cy 0, 8, .inl f1)), (n2, .inl (cy 0, 8, .inl f2)), (n3, .inl (cy 0, 8, .inl f3)), (n4, .inl (cy 0, 8, .inl f4)), (n5, .inl (cy 1, 8, .inl f5)), (oa, .inl (cy 3, 1, .inr (.inl og)))] sz) [(oa, .inl (cy 3, 1, .inr (.inl o2)))] t9) (va_A [(h, .inr (13, [.ref pe, .ref ne, .ref pa, .ref ro, .int dy])), (ne, .inr (6, [.ref n1, .ref n2, .ref n3, .ref n4, .ref n5])), (n1, .inl (cy 0, 8, .inl f1)), (n2, .inl (cy 0, 8, .inl f2)), (n3, .inl (cy 0, 8, .inl f3)), (n4, .inl (cy 0, 8, .inl f4)), (n5, .inl (cy 1, 8, .inl f5)), (oa, .inl (cy 3, 1, .inr (.inl og)))] sz)) (zx_X (fun _ => False) (va_A [(h, .inr (13, [.ref pe, .ref ne, .ref pa, .ref ro, .int dy])), (ne, .inr (6, [.ref n1, .ref n2, .ref n3, .ref n4, .ref n5])), (n1, .inl (cy 0, 8, .inl f1)), (n2, .inl (cy 0, 8, .inl f2)), (n3, .inl (cy 0, 8, .inl f3)), (n4, .inl (cy 0, 8, .inl f4)), (n5, .inl (cy 1, 8, .inl f5)), (oa, .inl (cy 3, 1, .inr (.inl og)))] sz)) 4 24 (va_A [(h, .inr (13, [.ref pe, .ref ne, .ref pa, .ref ro, .int dy])), (ne, .inr (6, [.ref n1, .ref n2, .ref n3, .ref n4, .ref n5])), (n1, .inl (cy 0, 8, .inl f1)), (n2, .inl (cy 0, 8, .inl f2)), (n3, .inl (cy 0, 8, .inl f3)), (n4, .inl (cy 0, 8, .inl f4)), (n5, .inl (cy 1, 8, .inl f5)), (oa, .inl (cy 3, 1, .inr (.inl og)))] sz) := by
  refine vx_ofWH (cc := cL_setRules) (maxL := 8) (ret := (some .int)) (hh := [(0, 16, 19, 13)]) (by decide) rfl ?_
  intro p e s m args below meth c s₁ B hml hv
  have htb := vx_table (x := objectInit) B (atoms_spec (ws := wzL_setRules) B.pre _ List.mem_cons_self)
  obtain ⟨rfl, hsz, hP, hK, hD0, hZ, hN⟩ := hv
  have hx := B.exec
  have hb := B.bytes
  have hr := B.returns
  have hts := atoms_spec (ws := wzL_setRules) B.pre
  have hown : s.vm.findClass RL = some m.cls := findClass_of_methodNamed B.named
  have hlocks := B.notSynchronized
  subst hsz
  have hD := hD0.self (sz := s.heap.size)
  generalize hAe : va_A [(h, .inr (13, [.ref pe, .ref ne, .ref pa, .ref ro, .int dy])), (ne, .inr (6, [.ref n1, .ref n2, .ref n3, .ref n4, .ref n5])), (n1, .inl (cy 0, 8, .inl f1)), (n2, .inl (cy 0, 8, .inl f2)), (n3, .inl (cy 0, 8, .inl f3)), (n4, .inl (cy 0, 8, .inl f4)), (n5, .inl (cy 1, 8, .inl f5)), (oa, .inl (cy 3, 1, .inr (.inl og)))] s.heap.size = A at hD hZ ⊢
  have hA : ∀ q : Nat, s.heap.size ≤ q → A q := fun q h => by rw [← hAe]; exact Or.inr h
  have hS : va_S A s.heap s.heap [] := va_S.rf
  have hP : va_P D vwCl [(h, .inr (13, [.ref pe, .ref ne, .ref pa, .ref ro, .int dy])), (ne, .inr (6, [.ref n1, .ref n2, .ref n3, .ref n4, .ref n5])), (n1, .inl (cy 0, 8, .inl f1)), (n2, .inl (cy 0, 8, .inl f2)), (n3, .inl (cy 0, 8, .inl f3)), (n4, .inl (cy 0, 8, .inl f4)), (n5, .inl (cy 1, 8, .inl f5)), (oa, .inl (cy 3, 1, .inr (.inl og)))] s.heap := hP
  have hl := lv_entry ([.ref h, .int p0, .int p1, .int p2, .int p3, .int p4, .ref oa]) (n := 8) (Nat.le_of_ble_eq_true rfl)
  rw [lg_entry_eq]
  generalize (lg_sl ([.ref h, .int p0, .int p1, .int p2, .int p3, .int p4, .ref oa]) ++ List.replicate (8 - (lg_sl ([.ref h, .int p0, .int p1, .int p2, .int p3, .int p4, .ref oa])).length) Slot.unset).toArray = ls at hl ⊢
  have hl : lv_has ls 8 [(0, .ref h), (1, .int p0), (2, .int p1), (3, .int p2), (4, .int p3), (5, .int p4), (6, .ref oa)] := hl
  refine lv_aload hx hb dL_setRules_0 (lv_at hl 6 rfl) ?_
  refine lv_iconst (v := 0) hx hb dL_setRules_2 (by decide) ?_
  refine lv_aload_n hx hb dL_setRules_3 rfl (lv_at hl 0 rfl) ?_
  refine lv_iload_n hx hb dL_setRules_4 rfl (lv_at hl 1 rfl) ?_
  refine lv_iload_n hx hb dL_setRules_5 rfl (lv_at hl 2 rfl) ?_
  refine lv_iload_n hx hb dL_setRules_6 rfl (lv_at hl 3 rfl) ?_
  refine lv_iload hx hb dL_setRules_7 (lv_at hl 4 rfl) ?_
  refine lv_iload hx hb dL_setRules_9 (lv_at hl 5 rfl) ?_
  have hPc := hP.sub (ws' := [(h, .inr (13, [.ref pe, .ref ne, .ref pa, .ref ro, .int dy])), (ne, .inr (6, [.ref n1, .ref n2, .ref n3, .ref n4, .ref n5])), (n1, .inl (cy 0, 8, .inl f1)), (n2, .inl (cy 0, 8, .inl f2)), (n3, .inl (cy 0, 8, .inl f3)), (n4, .inl (cy 0, 8, .inl f4)), (n5, .inl (cy 1, 8, .inl f5))]) [0, 1, 2, 3, 4, 5, 6] rfl
  have hDc := hD.sub (ws' := [(h, .inr (13, [.ref pe, .ref ne, .ref pa, .ref ro, .int dy])), (ne, .inr (6, [.ref n1, .ref n2, .ref n3, .ref n4, .ref n5])), (n1, .inl (cy 0, 8, .inl f1)), (n2, .inl (cy 0, 8, .inl f2)), (n3, .inl (cy 0, 8, .inl f3)), (n4, .inl (cy 0, 8, .inl f4)), (n5, .inl (cy 1, 8, .inl f5))]) [0, 1, 2, 3, 4, 5, 6] (by decide) rfl
  have hFc := va_free (wc := [(h, .inr (13, [.ref pe, .ref ne, .ref pa, .ref ro, .int dy])), (ne, .inr (6, [.ref n1, .ref n2, .ref n3, .ref n4, .ref n5])), (n1, .inl (cy 0, 8, .inl f1)), (n2, .inl (cy 0, 8, .inl f2)), (n3, .inl (cy 0, 8, .inl f3)), (n4, .inl (cy 0, 8, .inl f4)), (n5, .inl (cy 1, 8, .inl f5))]) hD hS hA [0, 1, 2, 3, 4, 5, 6] rfl
  refine vx_calli (vx_runV (As := [.int p0, .int p1, .int p2, .int p3, .int p4]) (rest := [.int 0, .ref oa]) ⟨hx, hb, hml, hown, hts⟩ (c_X8_setRules l hst D cy ed s.heap.size h pe ne pa ro dy n1 n2 n3 n4 n5 f1 f2 f3 f4 f5 p0 p1 p2 p3 p4 hw9) (cwV 5 hts (zx_GV mm_1323 mm_1324 mm_1325 mm_71 mm_1326) rfl rfl rfl (by decide +kernel) ⟨(Nat.le_of_ble_eq_true rfl), (Nat.le_of_ble_eq_true rfl)⟩) ⟨zx_blind, va_recv hK hPc (ci := 13) (q0 := 0) rfl rfl, zx_give hPc hK hDc hS hFc hZ hN⟩ rfl rfl hl.1 rfl (lv_room (Nat.le_of_ble_eq_true rfl)) dL_setRules_11 ⟨(Nat.le_of_ble_eq_true rfl), (Nat.le_of_ble_eq_true rfl)⟩) hS (fun q _ h => hFc q h) hFc (fun q _ h => hFc q h) (fun E9 ce9 q9 _ t H locs ht hvm _ hBX hz1 hk1 hS hce hcv hcl => ?_) (fun r9 u t H locs ht hvm hw hB hz1 hk1 hS => ?_)
  · have hBX : (fun E9 => (E9 = "java/lang/IllegalArgumentException" ∧ k_setRules p0 p1 p2 p3 p4 = 1)) E9 := hBX
    obtain ⟨rfl, hc9⟩ := hBX
    refine vx_catch hown [] { startPc := 0, endPc := 16, handlerPc := 19, catchType := 13 } [] (by rw [htb]; rfl) (fun z9 h9 => absurd h9 List.not_mem_nil) (by decide) (by decide) (hts (.classLink RL 13 "java/lang/IllegalArgumentException") (zx_Gc mm_332)) (zx_cast_moved (Vm.Alike.refl _) (hN.2.2.1 _ _ (List.mem_of_getElem? (i := 344) (by decide +kernel)))) hce hcv hcl ?_
    obtain ⟨hP, hD⟩ := va_join (wr := [(oa, .inl (cy 3, 1, .inr (.inl og)))]) (w1 := []) hP hD [0, 1, 2, 3, 4, 5, 6] [7] rfl rfl (by decide) (by decide) hk1 hFc zx_P0 zx_D0
    have hP : va_P D vwCl [(oa, .inl (cy 3, 1, .inr (.inl og)))] H := hP
    have hD : va_D A [(oa, .inl (cy 3, 1, .inr (.inl og)))] := hD
    refine W.widen (k := 4) (n := 24) (Nat.le_of_ble_eq_true rfl) (Nat.le_of_ble_eq_true rfl) ?_
    refine lv_astore (lv' := [(7, .ref q9), (0, .ref h), (1, .int p0), (2, .int p1), (3, .int p2), (4, .int p3), (5, .int p4), (6, .ref oa)]) hx hb dL_setRules_19 hl (by decide) rfl (fun ls hl => ?_)
    refine lv_iconst (v := 1) hx hb dL_setRules_21 (by decide) ?_
    have hP9 := hP.sub (ws' := [(oa, .inl (cy 3, 1, .inr (.inl og)))]) [0] rfl
    have hD9 := hD.sub (ws' := [(oa, .inl (cy 3, 1, .inr (.inl og)))]) [0] (by decide) rfl
    refine vx_ret ?_
    exact W.iret (v := 1) hx hb hr (fun t ht hW => ⟨⟨1, og, rfl, ⟨hc9.symm, (fun h9 => absurd (hc9.symm.trans h9) (by decide))⟩, zx_fin hP9 hD9 hK ht hW⟩, hS.F ht⟩) hS.2.2 dL_setRules_22
  ·
    obtain ⟨rfl, h_217⟩ := hw
    obtain ⟨hP, hD⟩ := zx_join (wr := [(oa, .inl (cy 3, 1, .inr (.inl og)))]) (w1 := []) [0, 1, 2, 3, 4, 5, 6] [7] rfl rfl (by decide) (by decide) hP hD hk1 hFc hB ht
    have hP : va_P D vwCl [(oa, .inl (cy 3, 1, .inr (.inl og)))] H := hP
    have hD : va_D A [(oa, .inl (cy 3, 1, .inr (.inl og)))] := hD
    refine W.widen (k := 4) (n := 24) (Nat.le_of_ble_eq_true rfl) (Nat.le_of_ble_eq_true rfl) ?_
    refine lv_i2l (v := 115) hx hb dL_setRules_14 rfl ?_
    refine va_last hx hb hK hP hD hS 0 3 rfl rfl (zx_bn (by decide)) dL_setRules_15 (fun H locs hP hD hS => ?_)
    have hP : va_P D vwCl [(oa, .inl (cy 3, 1, .inr (.inl (vp_updL og (0 : Int32).toNatClampNeg 115))))] H := hP
    have hD : va_D A [(oa, .inl (cy 3, 1, .inr (.inl (vp_updL og (0 : Int32).toNatClampNeg 115))))] := hD
    refine lv_goto (tgt := 23) hx hb dL_setRules_16 (by decide) ?_
    refine lv_iconst (v := 0) hx hb dL_setRules_23 (by decide) ?_
    have hP9 := hP.sub (ws' := [(oa, .inl (cy 3, 1, .inr (.inl (vp_updL og (0 : Int32).toNatClampNeg 115))))]) [0] rfl
    have hD9 := hD.sub (ws' := [(oa, .inl (cy 3, 1, .inr (.inl (vp_updL og (0 : Int32).toNatClampNeg 115))))]) [0] (by decide) rfl
    refine vx_ret ?_
    exact W.iret (v := 0) hx hb hr (fun t ht hW => ⟨⟨0, (vp_updL og (0 : Int32).toNatClampNeg 115), rfl, ⟨h_217.symm, (fun _ => rfl)⟩, zx_fin hP9 hD9 hK ht hW⟩, hS.F ht⟩) hS.2.2 dL_setRules_24
set_option maxHeartbeats 4000000 in
set_option maxRecDepth 100000 in
theorem c_L_goOn (l : Launch) (hst : l.stackTraces = false) (D : va_G) (cy : Nat → ClassId) (ed sz : Nat) (h : Nat) (pe : Nat) (ne : Nat) (pa : Nat) (ro : Nat) (dy : Int32) (mc : Int32) (el : Nat) (oa : Nat) (og : Nat → Int64) (p0 : Int32) : vx_Met l yL_goOn wzL_goOn ({ frames := 7, cells := 1, slots := 6, locals := 104 }) (zx_Pc D cy ed sz [.ref h, .int p0, .ref oa] [(h, .inr (13, [.ref pe, .ref ne, .ref pa, .ref ro, .int dy])), (pa, .inr (4, [.int mc, .ref el, .int 0])), (oa, .inl (cy 3, 1, .inr (.inl og)))]) (va_Qi (fun (r9 : Int32) (u9 : Nat → Int64) => match u9 with | o2 => r9 = (k_goOn p0) ∧ (k_goOn p0 = 0 → o2 0 = 0)) (fun (u9 : Nat → Int64) (t9 : State) => match u9 with | o2 => zx_At D cy (va_A [(h, .inr (13, [.ref pe, .ref ne, .ref pa, .ref ro, .int dy])), (pa, .inr (4, [.int mc, .ref el, .int 0])), (oa, .inl (cy 3, 1, .inr (.inl og)))] sz) [(oa, .inl (cy 3, 1, .inr (.inl o2)))] t9) (va_A [(h, .inr (13, [.ref pe, .ref ne, .ref pa, .ref ro, .int dy])), (pa, .inr (4, [.int mc, .ref el, .int 0])), (oa, .inl (cy 3, 1, .inr (.inl og)))] sz)) (zx_X (fun _ => False) (va_A [(h, .inr (13, [.ref pe, .ref ne, .ref pa, .ref ro, .int dy])), (pa, .inr (4, [.int mc, .ref el, .int 0])), (oa, .inl (cy 3, 1, .inr (.inl og)))] sz)) 1 6 (va_A [(h, .inr (13, [.ref pe, .ref ne, .ref pa, .ref ro, .int dy])), (pa, .inr (4, [.int mc, .ref el, .int 0])), (oa, .inl (cy 3, 1, .inr (.inl og)))] sz) := by
  refine vx_ofWH (cc := cL_goOn) (maxL := 4) (ret := (some .int)) (hh := [(0, 9, 12, 13)]) (by decide) rfl ?_
  intro p e s m args below meth c s₁ B hml hv
  have htb := vx_table (x := objectInit) B (atoms_spec (ws := wzL_goOn) B.pre _ List.mem_cons_self)
  obtain ⟨rfl, hsz, hP, hK, hD0, hZ, hN⟩ := hv
  have hx := B.exec
  have hb := B.bytes
  have hr := B.returns
  have hts := atoms_spec (ws := wzL_goOn) B.pre
  have hown : s.vm.findClass RL = some m.cls := findClass_of_methodNamed B.named
  have hlocks := B.notSynchronized
  subst hsz
  have hD := hD0.self (sz := s.heap.size)
  generalize hAe : va_A [(h, .inr (13, [.ref pe, .ref ne, .ref pa, .ref ro, .int dy])), (pa, .inr (4, [.int mc, .ref el, .int 0])), (oa, .inl (cy 3, 1, .inr (.inl og)))] s.heap.size = A at hD hZ ⊢
  have hA : ∀ q : Nat, s.heap.size ≤ q → A q := fun q h => by rw [← hAe]; exact Or.inr h
  have hS : va_S A s.heap s.heap [] := va_S.rf
  have hP : va_P D vwCl [(h, .inr (13, [.ref pe, .ref ne, .ref pa, .ref ro, .int dy])), (pa, .inr (4, [.int mc, .ref el, .int 0])), (oa, .inl (cy 3, 1, .inr (.inl og)))] s.heap := hP
  have hl := lv_entry ([.ref h, .int p0, .ref oa]) (n := 4) (Nat.le_of_ble_eq_true rfl)
  rw [lg_entry_eq]
  generalize (lg_sl ([.ref h, .int p0, .ref oa]) ++ List.replicate (4 - (lg_sl ([.ref h, .int p0, .ref oa])).length) Slot.unset).toArray = ls at hl ⊢
  have hl : lv_has ls 4 [(0, .ref h), (1, .int p0), (2, .ref oa)] := hl
  refine lv_aload_n hx hb dL_goOn_0 rfl (lv_at hl 2 rfl) ?_
  refine lv_iconst (v := 0) hx hb dL_goOn_1 (by decide) ?_
  refine lv_aload_n hx hb dL_goOn_2 rfl (lv_at hl 0 rfl) ?_
  refine lv_iload_n hx hb dL_goOn_3 rfl (lv_at hl 1 rfl) ?_
  have hPc := hP.sub (ws' := [(h, .inr (13, [.ref pe, .ref ne, .ref pa, .ref ro, .int dy])), (pa, .inr (4, [.int mc, .ref el, .int 0]))]) [0, 1] rfl
  have hDc := hD.sub (ws' := [(h, .inr (13, [.ref pe, .ref ne, .ref pa, .ref ro, .int dy])), (pa, .inr (4, [.int mc, .ref el, .int 0]))]) [0, 1] (by decide) rfl
  have hFc := va_free (wc := [(h, .inr (13, [.ref pe, .ref ne, .ref pa, .ref ro, .int dy])), (pa, .inr (4, [.int mc, .ref el, .int 0]))]) hD hS hA [0, 1] rfl
  refine vx_calli (vx_runV (As := [.int p0]) (rest := [.int 0, .ref oa]) ⟨hx, hb, hml, hown, hts⟩ (c_X8_goOn l hst D cy ed s.heap.size h pe ne pa ro dy mc el p0) (cwV 1 hts (zx_GV mm_1541 mm_1542 mm_1543 mm_71 mm_1544) rfl rfl rfl (by decide +kernel) ⟨(Nat.le_of_ble_eq_true rfl), (Nat.le_of_ble_eq_true rfl)⟩) ⟨zx_blind, va_recv hK hPc (ci := 13) (q0 := 0) rfl rfl, zx_give hPc hK hDc hS hFc hZ hN⟩ rfl rfl hl.1 rfl (lv_room (Nat.le_of_ble_eq_true rfl)) dL_goOn_4 ⟨(Nat.le_of_ble_eq_true rfl), (Nat.le_of_ble_eq_true rfl)⟩) hS (fun q _ h => hFc q h) hFc (fun q _ h => hFc q h) (fun E9 ce9 q9 _ t H locs ht hvm _ hBX hz1 hk1 hS hce hcv hcl => ?_) (fun r9 u t H locs ht hvm hw hB hz1 hk1 hS => ?_)
  · have hBX : (fun E9 => (E9 = "java/lang/IllegalArgumentException" ∧ k_goOn p0 = 1)) E9 := hBX
    obtain ⟨rfl, hc9⟩ := hBX
    refine vx_catch hown [] { startPc := 0, endPc := 9, handlerPc := 12, catchType := 13 } [] (by rw [htb]; rfl) (fun z9 h9 => absurd h9 List.not_mem_nil) (by decide) (by decide) (hts (.classLink RL 13 "java/lang/IllegalArgumentException") (zx_Gc mm_332)) (zx_cast_moved (Vm.Alike.refl _) (hN.2.2.1 _ _ (List.mem_of_getElem? (i := 344) (by decide +kernel)))) hce hcv hcl ?_
    obtain ⟨hP, hD⟩ := va_join (wr := [(oa, .inl (cy 3, 1, .inr (.inl og)))]) (w1 := []) hP hD [0, 1] [2] rfl rfl (by decide) (by decide) hk1 hFc zx_P0 zx_D0
    have hP : va_P D vwCl [(oa, .inl (cy 3, 1, .inr (.inl og)))] H := hP
    have hD : va_D A [(oa, .inl (cy 3, 1, .inr (.inl og)))] := hD
    refine W.widen (k := 1) (n := 6) (Nat.le_of_ble_eq_true rfl) (Nat.le_of_ble_eq_true rfl) ?_
    refine lv_astore_n (lv' := [(3, .ref q9), (0, .ref h), (1, .int p0), (2, .ref oa)]) hx hb dL_goOn_12 rfl hl (by decide) rfl (fun ls hl => ?_)
    refine lv_iconst (v := 1) hx hb dL_goOn_13 (by decide) ?_
    have hP9 := hP.sub (ws' := [(oa, .inl (cy 3, 1, .inr (.inl og)))]) [0] rfl
    have hD9 := hD.sub (ws' := [(oa, .inl (cy 3, 1, .inr (.inl og)))]) [0] (by decide) rfl
    refine vx_ret ?_
    exact W.iret (v := 1) hx hb hr (fun t ht hW => ⟨⟨1, og, rfl, ⟨hc9.symm, (fun h9 => absurd (hc9.symm.trans h9) (by decide))⟩, zx_fin hP9 hD9 hK ht hW⟩, hS.F ht⟩) hS.2.2 dL_goOn_14
  ·
    obtain ⟨rfl, h_218⟩ := hw
    obtain ⟨hP, hD⟩ := zx_join (wr := [(oa, .inl (cy 3, 1, .inr (.inl og)))]) (w1 := []) [0, 1] [2] rfl rfl (by decide) (by decide) hP hD hk1 hFc hB ht
    have hP : va_P D vwCl [(oa, .inl (cy 3, 1, .inr (.inl og)))] H := hP
    have hD : va_D A [(oa, .inl (cy 3, 1, .inr (.inl og)))] := hD
    refine W.widen (k := 1) (n := 6) (Nat.le_of_ble_eq_true rfl) (Nat.le_of_ble_eq_true rfl) ?_
    refine lv_i2l (v := 0) hx hb dL_goOn_7 rfl ?_
    refine va_last hx hb hK hP hD hS 0 3 rfl rfl (zx_bn (by decide)) dL_goOn_8 (fun H locs hP hD hS => ?_)
    have hP : va_P D vwCl [(oa, .inl (cy 3, 1, .inr (.inl (vp_updL og (0 : Int32).toNatClampNeg 0))))] H := hP
    have hD : va_D A [(oa, .inl (cy 3, 1, .inr (.inl (vp_updL og (0 : Int32).toNatClampNeg 0))))] := hD
    refine lv_goto (tgt := 15) hx hb dL_goOn_9 (by decide) ?_
    refine lv_iconst (v := 0) hx hb dL_goOn_15 (by decide) ?_
    have hP9 := hP.sub (ws' := [(oa, .inl (cy 3, 1, .inr (.inl (vp_updL og (0 : Int32).toNatClampNeg 0))))]) [0] rfl
    have hD9 := hD.sub (ws' := [(oa, .inl (cy 3, 1, .inr (.inl (vp_updL og (0 : Int32).toNatClampNeg 0))))]) [0] (by decide) rfl
    refine vx_ret ?_
    exact W.iret (v := 0) hx hb hr (fun t ht hW => ⟨⟨0, (vp_updL og (0 : Int32).toNatClampNeg 0), rfl, ⟨h_218.symm, (fun _ => rfl)⟩, zx_fin hP9 hD9 hK ht hW⟩, hS.F ht⟩) hS.2.2 dL_goOn_16
set_option maxHeartbeats 4000000 in
set_option maxRecDepth 100000 in
theorem c_L_fieldIndex (l : Launch) (hst : l.stackTraces = false) (D : va_G) (cy : Nat → ClassId) (ed sz : Nat) (h : Nat) (pe : Nat) (ne : Nat) (pa : Nat) (ro : Nat) (dy : Int32) (mc : Int32) (el : Nat) (oa : Nat) (og : Nat → UInt64) (p0 : Int32) (p1 : Int32) : vx_Met l yL_fieldIndex wzL_fieldIndex ({ frames := 8, cells := 4, slots := 24, locals := 128 }) (zx_Pc D cy ed sz [.ref h, .int p0, .int p1, .ref oa] [(h, .inr (13, [.ref pe, .ref ne, .ref pa, .ref ro, .int dy])), (pa, .inr (4, [.int mc, .ref el, .int 0])), (oa, .inl (cy 4, 1, .inr (.inr (.inr (.inl og)))))]) (va_Qi (fun (r9 : Int32) (u9 : Unit) => r9 = (k_fieldIndex p0 p1)) (fun (u9 : Unit) (t9 : State) => zx_At D cy (va_A [(h, .inr (13, [.ref pe, .ref ne, .ref pa, .ref ro, .int dy])), (pa, .inr (4, [.int mc, .ref el, .int 0])), (oa, .inl (cy 4, 1, .inr (.inr (.inr (.inl og)))))] sz) [] t9) (va_A [(h, .inr (13, [.ref pe, .ref ne, .ref pa, .ref ro, .int dy])), (pa, .inr (4, [.int mc, .ref el, .int 0])), (oa, .inl (cy 4, 1, .inr (.inr (.inr (.inl og)))))] sz)) (zx_X (fun _ => False) (va_A [(h, .inr (13, [.ref pe, .ref ne, .ref pa, .ref ro, .int dy])), (pa, .inr (4, [.int mc, .ref el, .int 0])), (oa, .inl (cy 4, 1, .inr (.inr (.inr (.inl og)))))] sz)) 4 24 (va_A [(h, .inr (13, [.ref pe, .ref ne, .ref pa, .ref ro, .int dy])), (pa, .inr (4, [.int mc, .ref el, .int 0])), (oa, .inl (cy 4, 1, .inr (.inr (.inr (.inl og)))))] sz) := by
  refine vx_ofWH (cc := cL_fieldIndex) (maxL := 5) (ret := (some .int)) (hh := [(0, 10, 13, 13), (0, 10, 17, 183)]) (by decide) rfl ?_
  intro p e s m args below meth c s₁ B hml hv
  have htb := vx_table (x := objectInit) B (atoms_spec (ws := wzL_fieldIndex) B.pre _ List.mem_cons_self)
  obtain ⟨rfl, hsz, hP, hK, hD0, hZ, hN⟩ := hv
  have hx := B.exec
  have hb := B.bytes
  have hr := B.returns
  have hts := atoms_spec (ws := wzL_fieldIndex) B.pre
  have hown : s.vm.findClass RL = some m.cls := findClass_of_methodNamed B.named
  have hlocks := B.notSynchronized
  subst hsz
  have hD := hD0.self (sz := s.heap.size)
  generalize hAe : va_A [(h, .inr (13, [.ref pe, .ref ne, .ref pa, .ref ro, .int dy])), (pa, .inr (4, [.int mc, .ref el, .int 0])), (oa, .inl (cy 4, 1, .inr (.inr (.inr (.inl og)))))] s.heap.size = A at hD hZ ⊢
  have hA : ∀ q : Nat, s.heap.size ≤ q → A q := fun q h => by rw [← hAe]; exact Or.inr h
  have hS : va_S A s.heap s.heap [] := va_S.rf
  have hP : va_P D vwCl [(h, .inr (13, [.ref pe, .ref ne, .ref pa, .ref ro, .int dy])), (pa, .inr (4, [.int mc, .ref el, .int 0])), (oa, .inl (cy 4, 1, .inr (.inr (.inr (.inl og)))))] s.heap := hP
  have hl := lv_entry ([.ref h, .int p0, .int p1, .ref oa]) (n := 5) (Nat.le_of_ble_eq_true rfl)
  rw [lg_entry_eq]
  generalize (lg_sl ([.ref h, .int p0, .int p1, .ref oa]) ++ List.replicate (5 - (lg_sl ([.ref h, .int p0, .int p1, .ref oa])).length) Slot.unset).toArray = ls at hl ⊢
  have hl : lv_has ls 5 [(0, .ref h), (1, .int p0), (2, .int p1), (3, .ref oa)] := hl
  refine lv_aload_n hx hb dL_fieldIndex_0 rfl (lv_at hl 3 rfl) ?_
  refine lv_iconst (v := 0) hx hb dL_fieldIndex_1 (by decide) ?_
  refine lv_aload_n hx hb dL_fieldIndex_2 rfl (lv_at hl 0 rfl) ?_
  refine lv_iload_n hx hb dL_fieldIndex_3 rfl (lv_at hl 1 rfl) ?_
  refine lv_iload_n hx hb dL_fieldIndex_4 rfl (lv_at hl 2 rfl) ?_
  have hPc := hP.sub (ws' := [(h, .inr (13, [.ref pe, .ref ne, .ref pa, .ref ro, .int dy])), (pa, .inr (4, [.int mc, .ref el, .int 0]))]) [0, 1] rfl
  have hDc := hD.sub (ws' := [(h, .inr (13, [.ref pe, .ref ne, .ref pa, .ref ro, .int dy])), (pa, .inr (4, [.int mc, .ref el, .int 0]))]) [0, 1] (by decide) rfl
  have hFc := va_free (wc := [(h, .inr (13, [.ref pe, .ref ne, .ref pa, .ref ro, .int dy])), (pa, .inr (4, [.int mc, .ref el, .int 0]))]) hD hS hA [0, 1] rfl
  refine vx_callf (vx_runV (As := [.int p0, .int p1]) (rest := [.int 0, .ref oa]) ⟨hx, hb, hml, hown, hts⟩ (c_X8_fieldIndex l hst D cy ed s.heap.size h pe ne pa ro dy mc el p0 p1) (cwV 2 hts (zx_GV mm_1481 mm_1482 mm_1483 mm_71 mm_1484) rfl rfl rfl (by decide +kernel) ⟨(Nat.le_of_ble_eq_true rfl), (Nat.le_of_ble_eq_true rfl)⟩) ⟨zx_blind, va_recv hK hPc (ci := 13) (q0 := 0) rfl rfl, zx_give hPc hK hDc hS hFc hZ hN⟩ rfl rfl hl.1 rfl (lv_room (Nat.le_of_ble_eq_true rfl)) dL_fieldIndex_5 ⟨(Nat.le_of_ble_eq_true rfl), (Nat.le_of_ble_eq_true rfl)⟩) hS (fun q _ h => hFc q h) hFc (fun q _ h => hFc q h) (fun E9 ce9 q9 _ t H locs ht hvm _ hBX hz1 hk1 hS hce hcv hcl => ?_) (fun r9 u t H locs ht hvm hw hB hz1 hk1 hS => ?_)
  · have hBX : (fun E9 => (E9 = "java/lang/IllegalArgumentException" ∧ k_fieldIndex p0 p1 = 1) ∨ (E9 = "java/lang/ArithmeticException" ∧ k_fieldIndex p0 p1 = 2)) E9 := hBX
    rcases hBX with ⟨rfl, hc9⟩ | ⟨rfl, hc9⟩
    ·
      refine vx_catch hown [] { startPc := 0, endPc := 10, handlerPc := 13, catchType := 13 } [({ startPc := 0, endPc := 10, handlerPc := 17, catchType := 183 } : ExceptionTableEntry)] (by rw [htb]; rfl) (fun z9 h9 => absurd h9 List.not_mem_nil) (by decide) (by decide) (hts (.classLink RL 13 "java/lang/IllegalArgumentException") (zx_Gc mm_332)) (zx_cast_moved (Vm.Alike.refl _) (hN.2.2.1 _ _ (List.mem_of_getElem? (i := 344) (by decide +kernel)))) hce hcv hcl ?_
      obtain ⟨hP, hD⟩ := va_join (wr := [(oa, .inl (cy 4, 1, .inr (.inr (.inr (.inl og)))))]) (w1 := []) hP hD [0, 1] [2] rfl rfl (by decide) (by decide) hk1 hFc zx_P0 zx_D0
      have hP : va_P D vwCl [(oa, .inl (cy 4, 1, .inr (.inr (.inr (.inl og)))))] H := hP
      have hD : va_D A [(oa, .inl (cy 4, 1, .inr (.inr (.inr (.inl og)))))] := hD
      refine W.widen (k := 4) (n := 24) (Nat.le_of_ble_eq_true rfl) (Nat.le_of_ble_eq_true rfl) ?_
      refine lv_astore (lv' := [(4, .ref q9), (0, .ref h), (1, .int p0), (2, .int p1), (3, .ref oa)]) hx hb dL_fieldIndex_13 hl (by decide) rfl (fun ls hl => ?_)
      refine lv_iconst (v := 1) hx hb dL_fieldIndex_15 (by decide) ?_
      have hP9 := hP.sub (ws' := []) [] rfl
      have hD9 := hD.sub (ws' := []) [] (by decide) rfl
      refine vx_ret ?_
      exact W.iret (v := 1) hx hb hr (fun t ht hW => ⟨⟨1, (), rfl, hc9.symm, zx_fin hP9 hD9 hK ht hW⟩, hS.F ht⟩) hS.2.2 dL_fieldIndex_16
    ·
      refine vx_catch hown [({ startPc := 0, endPc := 10, handlerPc := 13, catchType := 13 } : ExceptionTableEntry)] { startPc := 0, endPc := 10, handlerPc := 17, catchType := 183 } [] (by rw [htb]; rfl) (fun z9 h9 => by obtain rfl := List.mem_singleton.mp h9; exact Or.inr ⟨by decide, "java/lang/IllegalArgumentException", (hts (.classLink RL 13 "java/lang/IllegalArgumentException") (zx_Gc mm_332)), hN.2.2.2.1 _ _ (by decide +kernel)⟩) (by decide) (by decide) (hts (.classLink RL 183 "java/lang/ArithmeticException") (zx_Gc mm_1467)) (zx_cast_moved (Vm.Alike.refl _) (hN.2.2.1 _ _ (List.mem_of_getElem? (i := 1479) (by decide +kernel)))) hce hcv hcl ?_
      obtain ⟨hP, hD⟩ := va_join (wr := [(oa, .inl (cy 4, 1, .inr (.inr (.inr (.inl og)))))]) (w1 := []) hP hD [0, 1] [2] rfl rfl (by decide) (by decide) hk1 hFc zx_P0 zx_D0
      have hP : va_P D vwCl [(oa, .inl (cy 4, 1, .inr (.inr (.inr (.inl og)))))] H := hP
      have hD : va_D A [(oa, .inl (cy 4, 1, .inr (.inr (.inr (.inl og)))))] := hD
      refine W.widen (k := 4) (n := 24) (Nat.le_of_ble_eq_true rfl) (Nat.le_of_ble_eq_true rfl) ?_
      refine lv_astore (lv' := [(4, .ref q9), (0, .ref h), (1, .int p0), (2, .int p1), (3, .ref oa)]) hx hb dL_fieldIndex_17 hl (by decide) rfl (fun ls hl => ?_)
      refine lv_iconst (v := 2) hx hb dL_fieldIndex_19 (by decide) ?_
      have hP9 := hP.sub (ws' := []) [] rfl
      have hD9 := hD.sub (ws' := []) [] (by decide) rfl
      refine vx_ret ?_
      exact W.iret (v := 2) hx hb hr (fun t ht hW => ⟨⟨2, (), rfl, hc9.symm, zx_fin hP9 hD9 hK ht hW⟩, hS.F ht⟩) hS.2.2 dL_fieldIndex_20
  · exact hw.elim
