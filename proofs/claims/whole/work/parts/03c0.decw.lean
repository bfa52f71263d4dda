/-! the wrappers, instruction by instruction -/
theorem dL_valley_0 : decode cL_valley 0 = .ok (.aload_n 1, 1) := by decide +kernel
theorem dL_valley_1 : decode cL_valley 1 = .ok (.iconst 0, 1) := by decide +kernel
theorem dL_valley_2 : decode cL_valley 2 = .ok (.aload_n 0, 1) := by decide +kernel
theorem dL_valley_3 : decode cL_valley 3 = .ok (.invokevirtual 7, 3) := by decide +kernel
theorem dL_valley_6 : decode cL_valley 6 = .ok (.i2l, 1) := by decide +kernel
theorem dL_valley_7 : decode cL_valley 7 = .ok (.lastore, 1) := by decide +kernel
theorem dL_valley_8 : decode cL_valley 8 = .ok (.goto 9, 3) := by decide +kernel
theorem dL_valley_11 : decode cL_valley 11 = .ok (.astore_n 2, 1) := by decide +kernel
theorem dL_valley_12 : decode cL_valley 12 = .ok (.iconst 1, 1) := by decide +kernel
theorem dL_valley_13 : decode cL_valley 13 = .ok (.ireturn, 1) := by decide +kernel
theorem dL_valley_14 : decode cL_valley 14 = .ok (.astore_n 2, 1) := by decide +kernel
theorem dL_valley_15 : decode cL_valley 15 = .ok (.iconst 2, 1) := by decide +kernel
theorem dL_valley_16 : decode cL_valley 16 = .ok (.ireturn, 1) := by decide +kernel
theorem dL_valley_17 : decode cL_valley 17 = .ok (.iconst 0, 1) := by decide +kernel
theorem dL_valley_18 : decode cL_valley 18 = .ok (.ireturn, 1) := by decide +kernel
theorem dL_law_0 : decode cL_law 0 = .ok (.aload_n 1, 1) := by decide +kernel
theorem dL_law_1 : decode cL_law 1 = .ok (.iconst 0, 1) := by decide +kernel
theorem dL_law_2 : decode cL_law 2 = .ok (.aload_n 0, 1) := by decide +kernel
theorem dL_law_3 : decode cL_law 3 = .ok (.invokevirtual 17, 3) := by decide +kernel
theorem dL_law_6 : decode cL_law 6 = .ok (.i2l, 1) := by decide +kernel
theorem dL_law_7 : decode cL_law 7 = .ok (.lastore, 1) := by decide +kernel
theorem dL_law_8 : decode cL_law 8 = .ok (.goto 6, 3) := by decide +kernel
theorem dL_law_11 : decode cL_law 11 = .ok (.astore_n 2, 1) := by decide +kernel
theorem dL_law_12 : decode cL_law 12 = .ok (.iconst 1, 1) := by decide +kernel
theorem dL_law_13 : decode cL_law 13 = .ok (.ireturn, 1) := by decide +kernel
theorem dL_law_14 : decode cL_law 14 = .ok (.iconst 0, 1) := by decide +kernel
theorem dL_law_15 : decode cL_law 15 = .ok (.ireturn, 1) := by decide +kernel
theorem dL_rule_0 : decode cL_rule 0 = .ok (.aload_n 3, 1) := by decide +kernel
theorem dL_rule_1 : decode cL_rule 1 = .ok (.iconst 0, 1) := by decide +kernel
theorem dL_rule_2 : decode cL_rule 2 = .ok (.aload_n 0, 1) := by decide +kernel
theorem dL_rule_3 : decode cL_rule 3 = .ok (.iload_n 1, 1) := by decide +kernel
theorem dL_rule_4 : decode cL_rule 4 = .ok (.iload_n 2, 1) := by decide +kernel
theorem dL_rule_5 : decode cL_rule 5 = .ok (.invokevirtual 20, 3) := by decide +kernel
theorem dL_rule_8 : decode cL_rule 8 = .ok (.lastore, 1) := by decide +kernel
theorem dL_rule_9 : decode cL_rule 9 = .ok (.goto 7, 3) := by decide +kernel
theorem dL_rule_12 : decode cL_rule 12 = .ok (.astore 4, 2) := by decide +kernel
theorem dL_rule_14 : decode cL_rule 14 = .ok (.iconst 1, 1) := by decide +kernel
theorem dL_rule_15 : decode cL_rule 15 = .ok (.ireturn, 1) := by decide +kernel
theorem dL_rule_16 : decode cL_rule 16 = .ok (.iconst 0, 1) := by decide +kernel
theorem dL_rule_17 : decode cL_rule 17 = .ok (.ireturn, 1) := by decide +kernel
theorem dL_field_0 : decode cL_field 0 = .ok (.aload_n 2, 1) := by decide +kernel
theorem dL_field_1 : decode cL_field 1 = .ok (.iconst 0, 1) := by decide +kernel
theorem dL_field_2 : decode cL_field 2 = .ok (.aload_n 0, 1) := by decide +kernel
theorem dL_field_3 : decode cL_field 3 = .ok (.iload_n 1, 1) := by decide +kernel
theorem dL_field_4 : decode cL_field 4 = .ok (.invokevirtual 26, 3) := by decide +kernel
theorem dL_field_7 : decode cL_field 7 = .ok (.lastore, 1) := by decide +kernel
theorem dL_field_8 : decode cL_field 8 = .ok (.goto 6, 3) := by decide +kernel
theorem dL_field_11 : decode cL_field 11 = .ok (.astore_n 3, 1) := by decide +kernel
theorem dL_field_12 : decode cL_field 12 = .ok (.iconst 1, 1) := by decide +kernel
theorem dL_field_13 : decode cL_field 13 = .ok (.ireturn, 1) := by decide +kernel
theorem dL_field_14 : decode cL_field 14 = .ok (.iconst 0, 1) := by decide +kernel
theorem dL_field_15 : decode cL_field 15 = .ok (.ireturn, 1) := by decide +kernel
theorem dL_seen_0 : decode cL_seen 0 = .ok (.aload_n 3, 1) := by decide +kernel
theorem dL_seen_1 : decode cL_seen 1 = .ok (.iconst 0, 1) := by decide +kernel
theorem dL_seen_2 : decode cL_seen 2 = .ok (.aload_n 0, 1) := by decide +kernel
theorem dL_seen_3 : decode cL_seen 3 = .ok (.iload_n 1, 1) := by decide +kernel
theorem dL_seen_4 : decode cL_seen 4 = .ok (.iload_n 2, 1) := by decide +kernel
theorem dL_seen_5 : decode cL_seen 5 = .ok (.invokevirtual 30, 3) := by decide +kernel
theorem dL_seen_8 : decode cL_seen 8 = .ok (.lastore, 1) := by decide +kernel
theorem dL_seen_9 : decode cL_seen 9 = .ok (.goto 7, 3) := by decide +kernel
theorem dL_seen_12 : decode cL_seen 12 = .ok (.astore 4, 2) := by decide +kernel
theorem dL_seen_14 : decode cL_seen 14 = .ok (.iconst 1, 1) := by decide +kernel
theorem dL_seen_15 : decode cL_seen 15 = .ok (.ireturn, 1) := by decide +kernel
theorem dL_seen_16 : decode cL_seen 16 = .ok (.iconst 0, 1) := by decide +kernel
theorem dL_seen_17 : decode cL_seen 17 = .ok (.ireturn, 1) := by decide +kernel
theorem dL_beast_0 : decode cL_beast 0 = .ok (.aload 4, 2) := by decide +kernel
theorem dL_beast_2 : decode cL_beast 2 = .ok (.iconst 0, 1) := by decide +kernel
theorem dL_beast_3 : decode cL_beast 3 = .ok (.aload_n 0, 1) := by decide +kernel
theorem dL_beast_4 : decode cL_beast 4 = .ok (.lload_n 1, 1) := by decide +kernel
theorem dL_beast_5 : decode cL_beast 5 = .ok (.iload_n 3, 1) := by decide +kernel
theorem dL_beast_6 : decode cL_beast 6 = .ok (.invokevirtual 33, 3) := by decide +kernel
theorem dL_beast_9 : decode cL_beast 9 = .ok (.i2l, 1) := by decide +kernel
theorem dL_beast_10 : decode cL_beast 10 = .ok (.lastore, 1) := by decide +kernel
theorem dL_beast_11 : decode cL_beast 11 = .ok (.goto 7, 3) := by decide +kernel
theorem dL_beast_14 : decode cL_beast 14 = .ok (.astore 5, 2) := by decide +kernel
theorem dL_beast_16 : decode cL_beast 16 = .ok (.iconst 1, 1) := by decide +kernel
theorem dL_beast_17 : decode cL_beast 17 = .ok (.ireturn, 1) := by decide +kernel
theorem dL_beast_18 : decode cL_beast 18 = .ok (.iconst 0, 1) := by decide +kernel
theorem dL_beast_19 : decode cL_beast 19 = .ok (.ireturn, 1) := by decide +kernel
theorem dL_steps_0 : decode cL_steps 0 = .ok (.aload_n 2, 1) := by decide +kernel
theorem dL_steps_1 : decode cL_steps 1 = .ok (.iconst 0, 1) := by decide +kernel
theorem dL_steps_2 : decode cL_steps 2 = .ok (.aload_n 0, 1) := by decide +kernel
theorem dL_steps_3 : decode cL_steps 3 = .ok (.iload_n 1, 1) := by decide +kernel
theorem dL_steps_4 : decode cL_steps 4 = .ok (.invokevirtual 37, 3) := by decide +kernel
theorem dL_steps_7 : decode cL_steps 7 = .ok (.i2l, 1) := by decide +kernel
theorem dL_steps_8 : decode cL_steps 8 = .ok (.lastore, 1) := by decide +kernel
theorem dL_steps_9 : decode cL_steps 9 = .ok (.goto 6, 3) := by decide +kernel
theorem dL_steps_12 : decode cL_steps 12 = .ok (.astore_n 3, 1) := by decide +kernel
theorem dL_steps_13 : decode cL_steps 13 = .ok (.iconst 1, 1) := by decide +kernel
theorem dL_steps_14 : decode cL_steps 14 = .ok (.ireturn, 1) := by decide +kernel
theorem dL_steps_15 : decode cL_steps 15 = .ok (.iconst 0, 1) := by decide +kernel
theorem dL_steps_16 : decode cL_steps 16 = .ok (.ireturn, 1) := by decide +kernel
theorem dL_maker_0 : decode cL_maker 0 = .ok (.aload 4, 2) := by decide +kernel
theorem dL_maker_2 : decode cL_maker 2 = .ok (.iconst 0, 1) := by decide +kernel
theorem dL_maker_3 : decode cL_maker 3 = .ok (.aload_n 0, 1) := by decide +kernel
theorem dL_maker_4 : decode cL_maker 4 = .ok (.iload_n 1, 1) := by decide +kernel
theorem dL_maker_5 : decode cL_maker 5 = .ok (.iload_n 2, 1) := by decide +kernel
theorem dL_maker_6 : decode cL_maker 6 = .ok (.iload_n 3, 1) := by decide +kernel
theorem dL_maker_7 : decode cL_maker 7 = .ok (.invokevirtual 41, 3) := by decide +kernel
theorem dL_maker_10 : decode cL_maker 10 = .ok (.i2l, 1) := by decide +kernel
theorem dL_maker_11 : decode cL_maker 11 = .ok (.lastore, 1) := by decide +kernel
theorem dL_maker_12 : decode cL_maker 12 = .ok (.goto 11, 3) := by decide +kernel
theorem dL_maker_15 : decode cL_maker 15 = .ok (.astore 5, 2) := by decide +kernel
theorem dL_maker_17 : decode cL_maker 17 = .ok (.iconst 1, 1) := by decide +kernel
theorem dL_maker_18 : decode cL_maker 18 = .ok (.ireturn, 1) := by decide +kernel
theorem dL_maker_19 : decode cL_maker 19 = .ok (.astore 5, 2) := by decide +kernel
theorem dL_maker_21 : decode cL_maker 21 = .ok (.iconst 2, 1) := by decide +kernel
theorem dL_maker_22 : decode cL_maker 22 = .ok (.ireturn, 1) := by decide +kernel
theorem dL_maker_23 : decode cL_maker 23 = .ok (.iconst 0, 1) := by decide +kernel
theorem dL_maker_24 : decode cL_maker 24 = .ok (.ireturn, 1) := by decide +kernel
theorem dL_fits_0 : decode cL_fits 0 = .ok (.aload 5, 2) := by decide +kernel
theorem dL_fits_2 : decode cL_fits 2 = .ok (.iconst 0, 1) := by decide +kernel
theorem dL_fits_3 : decode cL_fits 3 = .ok (.aload_n 0, 1) := by decide +kernel
theorem dL_fits_4 : decode cL_fits 4 = .ok (.lload_n 1, 1) := by decide +kernel
theorem dL_fits_5 : decode cL_fits 5 = .ok (.iload_n 3, 1) := by decide +kernel
theorem dL_fits_6 : decode cL_fits 6 = .ok (.iload 4, 2) := by decide +kernel
theorem dL_fits_8 : decode cL_fits 8 = .ok (.invokevirtual 47, 3) := by decide +kernel
theorem dL_fits_11 : decode cL_fits 11 = .ok (.ifCond .eq 7, 3) := by decide +kernel
theorem dL_fits_14 : decode cL_fits 14 = .ok (.lconst 1, 1) := by decide +kernel
theorem dL_fits_15 : decode cL_fits 15 = .ok (.goto 4, 3) := by decide +kernel
theorem dL_fits_18 : decode cL_fits 18 = .ok (.lconst 0, 1) := by decide +kernel
theorem dL_fits_19 : decode cL_fits 19 = .ok (.lastore, 1) := by decide +kernel
theorem dL_fits_20 : decode cL_fits 20 = .ok (.goto 11, 3) := by decide +kernel
theorem dL_fits_23 : decode cL_fits 23 = .ok (.astore 6, 2) := by decide +kernel
theorem dL_fits_25 : decode cL_fits 25 = .ok (.iconst 1, 1) := by decide +kernel
theorem dL_fits_26 : decode cL_fits 26 = .ok (.ireturn, 1) := by decide +kernel
theorem dL_fits_27 : decode cL_fits 27 = .ok (.astore 6, 2) := by decide +kernel
theorem dL_fits_29 : decode cL_fits 29 = .ok (.iconst 2, 1) := by decide +kernel
theorem dL_fits_30 : decode cL_fits 30 = .ok (.ireturn, 1) := by decide +kernel
theorem dL_fits_31 : decode cL_fits 31 = .ok (.iconst 0, 1) := by decide +kernel
theorem dL_fits_32 : decode cL_fits 32 = .ok (.ireturn, 1) := by decide +kernel
theorem dL_use_0 : decode cL_use 0 = .ok (.aload 4, 2) := by decide +kernel
theorem dL_use_2 : decode cL_use 2 = .ok (.iconst 0, 1) := by decide +kernel
theorem dL_use_3 : decode cL_use 3 = .ok (.aload_n 0, 1) := by decide +kernel
theorem dL_use_4 : decode cL_use 4 = .ok (.iload_n 1, 1) := by decide +kernel
theorem dL_use_5 : decode cL_use 5 = .ok (.iload_n 2, 1) := by decide +kernel
theorem dL_use_6 : decode cL_use 6 = .ok (.iload_n 3, 1) := by decide +kernel
theorem dL_use_7 : decode cL_use 7 = .ok (.invokevirtual 51, 3) := by decide +kernel
theorem dL_use_10 : decode cL_use 10 = .ok (.lastore, 1) := by decide +kernel
theorem dL_use_11 : decode cL_use 11 = .ok (.goto 11, 3) := by decide +kernel
theorem dL_use_14 : decode cL_use 14 = .ok (.astore 5, 2) := by decide +kernel
theorem dL_use_16 : decode cL_use 16 = .ok (.iconst 1, 1) := by decide +kernel
theorem dL_use_17 : decode cL_use 17 = .ok (.ireturn, 1) := by decide +kernel
theorem dL_use_18 : decode cL_use 18 = .ok (.astore 5, 2) := by decide +kernel
theorem dL_use_20 : decode cL_use 20 = .ok (.iconst 2, 1) := by decide +kernel
theorem dL_use_21 : decode cL_use 21 = .ok (.ireturn, 1) := by decide +kernel
theorem dL_use_22 : decode cL_use 22 = .ok (.iconst 0, 1) := by decide +kernel
theorem dL_use_23 : decode cL_use 23 = .ok (.ireturn, 1) := by decide +kernel
theorem dL_run_0 : decode cL_run 0 = .ok (.aload_n 3, 1) := by decide +kernel
theorem dL_run_1 : decode cL_run 1 = .ok (.iconst 0, 1) := by decide +kernel
theorem dL_run_2 : decode cL_run 2 = .ok (.aload_n 0, 1) := by decide +kernel
theorem dL_run_3 : decode cL_run 3 = .ok (.iload_n 1, 1) := by decide +kernel
theorem dL_run_4 : decode cL_run 4 = .ok (.iload_n 2, 1) := by decide +kernel
theorem dL_run_5 : decode cL_run 5 = .ok (.invokevirtual 57, 3) := by decide +kernel
theorem dL_run_8 : decode cL_run 8 = .ok (.i2l, 1) := by decide +kernel
theorem dL_run_9 : decode cL_run 9 = .ok (.lastore, 1) := by decide +kernel
theorem dL_run_10 : decode cL_run 10 = .ok (.goto 11, 3) := by decide +kernel
theorem dL_run_13 : decode cL_run 13 = .ok (.astore 4, 2) := by decide +kernel
theorem dL_run_15 : decode cL_run 15 = .ok (.iconst 1, 1) := by decide +kernel
theorem dL_run_16 : decode cL_run 16 = .ok (.ireturn, 1) := by decide +kernel
theorem dL_run_17 : decode cL_run 17 = .ok (.astore 4, 2) := by decide +kernel
theorem dL_run_19 : decode cL_run 19 = .ok (.iconst 2, 1) := by decide +kernel
theorem dL_run_20 : decode cL_run 20 = .ok (.ireturn, 1) := by decide +kernel
theorem dL_run_21 : decode cL_run 21 = .ok (.iconst 0, 1) := by decide +kernel
theorem dL_run_22 : decode cL_run 22 = .ok (.ireturn, 1) := by decide +kernel
theorem dL_put_0 : decode cL_put 0 = .ok (.aload 4, 2) := by decide +kernel
theorem dL_put_2 : decode cL_put 2 = .ok (.iconst 0, 1) := by decide +kernel
theorem dL_put_3 : decode cL_put 3 = .ok (.aload_n 0, 1) := by decide +kernel
theorem dL_put_4 : decode cL_put 4 = .ok (.iload_n 1, 1) := by decide +kernel
theorem dL_put_5 : decode cL_put 5 = .ok (.lload_n 2, 1) := by decide +kernel
theorem dL_put_6 : decode cL_put 6 = .ok (.invokevirtual 61, 3) := by decide +kernel
theorem dL_put_9 : decode cL_put 9 = .ok (.lastore, 1) := by decide +kernel
theorem dL_put_10 : decode cL_put 10 = .ok (.goto 11, 3) := by decide +kernel
theorem dL_put_13 : decode cL_put 13 = .ok (.astore 5, 2) := by decide +kernel
theorem dL_put_15 : decode cL_put 15 = .ok (.iconst 1, 1) := by decide +kernel
theorem dL_put_16 : decode cL_put 16 = .ok (.ireturn, 1) := by decide +kernel
theorem dL_put_17 : decode cL_put 17 = .ok (.astore 5, 2) := by decide +kernel
theorem dL_put_19 : decode cL_put 19 = .ok (.iconst 2, 1) := by decide +kernel
theorem dL_put_20 : decode cL_put 20 = .ok (.ireturn, 1) := by decide +kernel
theorem dL_put_21 : decode cL_put 21 = .ok (.iconst 0, 1) := by decide +kernel
theorem dL_put_22 : decode cL_put 22 = .ok (.ireturn, 1) := by decide +kernel
theorem dL_add_0 : decode cL_add 0 = .ok (.aload 5, 2) := by decide +kernel
theorem dL_add_2 : decode cL_add 2 = .ok (.iconst 0, 1) := by decide +kernel
theorem dL_add_3 : decode cL_add 3 = .ok (.aload_n 0, 1) := by decide +kernel
theorem dL_add_4 : decode cL_add 4 = .ok (.lload_n 1, 1) := by decide +kernel
theorem dL_add_5 : decode cL_add 5 = .ok (.lload_n 3, 1) := by decide +kernel
theorem dL_add_6 : decode cL_add 6 = .ok (.invokevirtual 65, 3) := by decide +kernel
theorem dL_add_9 : decode cL_add 9 = .ok (.i2l, 1) := by decide +kernel
theorem dL_add_10 : decode cL_add 10 = .ok (.lastore, 1) := by decide +kernel
theorem dL_add_11 : decode cL_add 11 = .ok (.goto 11, 3) := by decide +kernel
theorem dL_add_14 : decode cL_add 14 = .ok (.astore 6, 2) := by decide +kernel
theorem dL_add_16 : decode cL_add 16 = .ok (.iconst 1, 1) := by decide +kernel
theorem dL_add_17 : decode cL_add 17 = .ok (.ireturn, 1) := by decide +kernel
theorem dL_add_18 : decode cL_add 18 = .ok (.astore 6, 2) := by decide +kernel
theorem dL_add_20 : decode cL_add 20 = .ok (.iconst 2, 1) := by decide +kernel
theorem dL_add_21 : decode cL_add 21 = .ok (.ireturn, 1) := by decide +kernel
theorem dL_add_22 : decode cL_add 22 = .ok (.iconst 0, 1) := by decide +kernel
theorem dL_add_23 : decode cL_add 23 = .ok (.ireturn, 1) := by decide +kernel
theorem dL_drop_0 : decode cL_drop 0 = .ok (.aload_n 2, 1) := by decide +kernel
theorem dL_drop_1 : decode cL_drop 1 = .ok (.iconst 0, 1) := by decide +kernel
theorem dL_drop_2 : decode cL_drop 2 = .ok (.aload_n 0, 1) := by decide +kernel
theorem dL_drop_3 : decode cL_drop 3 = .ok (.iload_n 1, 1) := by decide +kernel
theorem dL_drop_4 : decode cL_drop 4 = .ok (.invokevirtual 69, 3) := by decide +kernel
theorem dL_drop_7 : decode cL_drop 7 = .ok (.i2l, 1) := by decide +kernel
theorem dL_drop_8 : decode cL_drop 8 = .ok (.lastore, 1) := by decide +kernel
theorem dL_drop_9 : decode cL_drop 9 = .ok (.goto 6, 3) := by decide +kernel
theorem dL_drop_12 : decode cL_drop 12 = .ok (.astore_n 3, 1) := by decide +kernel
theorem dL_drop_13 : decode cL_drop 13 = .ok (.iconst 1, 1) := by decide +kernel
theorem dL_drop_14 : decode cL_drop 14 = .ok (.ireturn, 1) := by decide +kernel
theorem dL_drop_15 : decode cL_drop 15 = .ok (.iconst 0, 1) := by decide +kernel
theorem dL_drop_16 : decode cL_drop 16 = .ok (.ireturn, 1) := by decide +kernel
theorem dL_years_0 : decode cL_years 0 = .ok (.aload_n 3, 1) := by decide +kernel
theorem dL_years_1 : decode cL_years 1 = .ok (.iconst 0, 1) := by decide +kernel
theorem dL_years_2 : decode cL_years 2 = .ok (.aload_n 0, 1) := by decide +kernel
theorem dL_years_3 : decode cL_years 3 = .ok (.iload_n 1, 1) := by decide +kernel
theorem dL_years_4 : decode cL_years 4 = .ok (.iload_n 2, 1) := by decide +kernel
theorem dL_years_5 : decode cL_years 5 = .ok (.invokevirtual 72, 3) := by decide +kernel
theorem dL_years_8 : decode cL_years 8 = .ok (.i2l, 1) := by decide +kernel
theorem dL_years_9 : decode cL_years 9 = .ok (.lastore, 1) := by decide +kernel
theorem dL_years_10 : decode cL_years 10 = .ok (.goto 11, 3) := by decide +kernel
theorem dL_years_13 : decode cL_years 13 = .ok (.astore 4, 2) := by decide +kernel
theorem dL_years_15 : decode cL_years 15 = .ok (.iconst 1, 1) := by decide +kernel
theorem dL_years_16 : decode cL_years 16 = .ok (.ireturn, 1) := by decide +kernel
theorem dL_years_17 : decode cL_years 17 = .ok (.astore 4, 2) := by decide +kernel
theorem dL_years_19 : decode cL_years 19 = .ok (.iconst 2, 1) := by decide +kernel
theorem dL_years_20 : decode cL_years 20 = .ok (.ireturn, 1) := by decide +kernel
theorem dL_years_21 : decode cL_years 21 = .ok (.iconst 0, 1) := by decide +kernel
theorem dL_years_22 : decode cL_years 22 = .ok (.ireturn, 1) := by decide +kernel
theorem dL_settles_0 : decode cL_settles 0 = .ok (.aload 5, 2) := by decide +kernel
theorem dL_settles_2 : decode cL_settles 2 = .ok (.iconst 0, 1) := by decide +kernel
theorem dL_settles_3 : decode cL_settles 3 = .ok (.aload_n 0, 1) := by decide +kernel
theorem dL_settles_4 : decode cL_settles 4 = .ok (.lload_n 1, 1) := by decide +kernel
theorem dL_settles_5 : decode cL_settles 5 = .ok (.iload_n 3, 1) := by decide +kernel
theorem dL_settles_6 : decode cL_settles 6 = .ok (.iload 4, 2) := by decide +kernel
theorem dL_settles_8 : decode cL_settles 8 = .ok (.invokevirtual 75, 3) := by decide +kernel
theorem dL_settles_11 : decode cL_settles 11 = .ok (.lastore, 1) := by decide +kernel
theorem dL_settles_12 : decode cL_settles 12 = .ok (.goto 7, 3) := by decide +kernel
theorem dL_settles_15 : decode cL_settles 15 = .ok (.astore 6, 2) := by decide +kernel
theorem dL_settles_17 : decode cL_settles 17 = .ok (.iconst 1, 1) := by decide +kernel
theorem dL_settles_18 : decode cL_settles 18 = .ok (.ireturn, 1) := by decide +kernel
theorem dL_settles_19 : decode cL_settles 19 = .ok (.iconst 0, 1) := by decide +kernel
theorem dL_settles_20 : decode cL_settles 20 = .ok (.ireturn, 1) := by decide +kernel
theorem dL_again_0 : decode cL_again 0 = .ok (.aload 4, 2) := by decide +kernel
theorem dL_again_2 : decode cL_again 2 = .ok (.iconst 0, 1) := by decide +kernel
theorem dL_again_3 : decode cL_again 3 = .ok (.aload_n 0, 1) := by decide +kernel
theorem dL_again_4 : decode cL_again 4 = .ok (.lload_n 1, 1) := by decide +kernel
theorem dL_again_5 : decode cL_again 5 = .ok (.iload_n 3, 1) := by decide +kernel
theorem dL_again_6 : decode cL_again 6 = .ok (.invokevirtual 79, 3) := by decide +kernel
theorem dL_again_9 : decode cL_again 9 = .ok (.i2l, 1) := by decide +kernel
theorem dL_again_10 : decode cL_again 10 = .ok (.lastore, 1) := by decide +kernel
theorem dL_again_11 : decode cL_again 11 = .ok (.goto 7, 3) := by decide +kernel
theorem dL_again_14 : decode cL_again 14 = .ok (.astore 5, 2) := by decide +kernel
theorem dL_again_16 : decode cL_again 16 = .ok (.iconst 1, 1) := by decide +kernel
theorem dL_again_17 : decode cL_again 17 = .ok (.ireturn, 1) := by decide +kernel
theorem dL_again_18 : decode cL_again 18 = .ok (.iconst 0, 1) := by decide +kernel
theorem dL_again_19 : decode cL_again 19 = .ok (.ireturn, 1) := by decide +kernel
theorem dL_alike_0 : decode cL_alike 0 = .ok (.aload 5, 2) := by decide +kernel
theorem dL_alike_2 : decode cL_alike 2 = .ok (.iconst 0, 1) := by decide +kernel
theorem dL_alike_3 : decode cL_alike 3 = .ok (.aload_n 0, 1) := by decide +kernel
theorem dL_alike_4 : decode cL_alike 4 = .ok (.lload_n 1, 1) := by decide +kernel
theorem dL_alike_5 : decode cL_alike 5 = .ok (.lload_n 3, 1) := by decide +kernel
theorem dL_alike_6 : decode cL_alike 6 = .ok (.invokevirtual 83, 3) := by decide +kernel
theorem dL_alike_9 : decode cL_alike 9 = .ok (.ifCond .eq 7, 3) := by decide +kernel
theorem dL_alike_12 : decode cL_alike 12 = .ok (.lconst 1, 1) := by decide +kernel
theorem dL_alike_13 : decode cL_alike 13 = .ok (.goto 4, 3) := by decide +kernel
theorem dL_alike_16 : decode cL_alike 16 = .ok (.lconst 0, 1) := by decide +kernel
theorem dL_alike_17 : decode cL_alike 17 = .ok (.lastore, 1) := by decide +kernel
theorem dL_alike_18 : decode cL_alike 18 = .ok (.goto 7, 3) := by decide +kernel
theorem dL_alike_21 : decode cL_alike 21 = .ok (.astore 6, 2) := by decide +kernel
theorem dL_alike_23 : decode cL_alike 23 = .ok (.iconst 1, 1) := by decide +kernel
theorem dL_alike_24 : decode cL_alike 24 = .ok (.ireturn, 1) := by decide +kernel
theorem dL_alike_25 : decode cL_alike 25 = .ok (.iconst 0, 1) := by decide +kernel
theorem dL_alike_26 : decode cL_alike 26 = .ok (.ireturn, 1) := by decide +kernel
theorem dL_becomes_0 : decode cL_becomes 0 = .ok (.aload 5, 2) := by decide +kernel
theorem dL_becomes_2 : decode cL_becomes 2 = .ok (.iconst 0, 1) := by decide +kernel
theorem dL_becomes_3 : decode cL_becomes 3 = .ok (.aload_n 0, 1) := by decide +kernel
theorem dL_becomes_4 : decode cL_becomes 4 = .ok (.lload_n 1, 1) := by decide +kernel
theorem dL_becomes_5 : decode cL_becomes 5 = .ok (.iload_n 3, 1) := by decide +kernel
theorem dL_becomes_6 : decode cL_becomes 6 = .ok (.iload 4, 2) := by decide +kernel
theorem dL_becomes_8 : decode cL_becomes 8 = .ok (.invokevirtual 87, 3) := by decide +kernel
theorem dL_becomes_11 : decode cL_becomes 11 = .ok (.lastore, 1) := by decide +kernel
theorem dL_becomes_12 : decode cL_becomes 12 = .ok (.goto 11, 3) := by decide +kernel
theorem dL_becomes_15 : decode cL_becomes 15 = .ok (.astore 6, 2) := by decide +kernel
theorem dL_becomes_17 : decode cL_becomes 17 = .ok (.iconst 1, 1) := by decide +kernel
theorem dL_becomes_18 : decode cL_becomes 18 = .ok (.ireturn, 1) := by decide +kernel
theorem dL_becomes_19 : decode cL_becomes 19 = .ok (.astore 6, 2) := by decide +kernel
theorem dL_becomes_21 : decode cL_becomes 21 = .ok (.iconst 2, 1) := by decide +kernel
theorem dL_becomes_22 : decode cL_becomes 22 = .ok (.ireturn, 1) := by decide +kernel
theorem dL_becomes_23 : decode cL_becomes 23 = .ok (.iconst 0, 1) := by decide +kernel
theorem dL_becomes_24 : decode cL_becomes 24 = .ok (.ireturn, 1) := by decide +kernel
theorem dL_fewest_0 : decode cL_fewest 0 = .ok (.aload 5, 2) := by decide +kernel
theorem dL_fewest_2 : decode cL_fewest 2 = .ok (.iconst 0, 1) := by decide +kernel
theorem dL_fewest_3 : decode cL_fewest 3 = .ok (.aload_n 0, 1) := by decide +kernel
theorem dL_fewest_4 : decode cL_fewest 4 = .ok (.lload_n 1, 1) := by decide +kernel
theorem dL_fewest_5 : decode cL_fewest 5 = .ok (.lload_n 3, 1) := by decide +kernel
theorem dL_fewest_6 : decode cL_fewest 6 = .ok (.invokevirtual 91, 3) := by decide +kernel
theorem dL_fewest_9 : decode cL_fewest 9 = .ok (.i2l, 1) := by decide +kernel
theorem dL_fewest_10 : decode cL_fewest 10 = .ok (.lastore, 1) := by decide +kernel
theorem dL_fewest_11 : decode cL_fewest 11 = .ok (.goto 7, 3) := by decide +kernel
theorem dL_fewest_14 : decode cL_fewest 14 = .ok (.astore 6, 2) := by decide +kernel
theorem dL_fewest_16 : decode cL_fewest 16 = .ok (.iconst 1, 1) := by decide +kernel
theorem dL_fewest_17 : decode cL_fewest 17 = .ok (.ireturn, 1) := by decide +kernel
theorem dL_fewest_18 : decode cL_fewest 18 = .ok (.iconst 0, 1) := by decide +kernel
theorem dL_fewest_19 : decode cL_fewest 19 = .ok (.ireturn, 1) := by decide +kernel
theorem dL_meets_0 : decode cL_meets 0 = .ok (.aload 7, 2) := by decide +kernel
theorem dL_meets_2 : decode cL_meets 2 = .ok (.iconst 0, 1) := by decide +kernel
theorem dL_meets_3 : decode cL_meets 3 = .ok (.aload_n 0, 1) := by decide +kernel
theorem dL_meets_4 : decode cL_meets 4 = .ok (.lload_n 1, 1) := by decide +kernel
theorem dL_meets_5 : decode cL_meets 5 = .ok (.lload_n 3, 1) := by decide +kernel
theorem dL_meets_6 : decode cL_meets 6 = .ok (.iload 5, 2) := by decide +kernel
theorem dL_meets_8 : decode cL_meets 8 = .ok (.iload 6, 2) := by decide +kernel
theorem dL_meets_10 : decode cL_meets 10 = .ok (.invokevirtual 94, 3) := by decide +kernel
theorem dL_meets_13 : decode cL_meets 13 = .ok (.lastore, 1) := by decide +kernel
theorem dL_meets_14 : decode cL_meets 14 = .ok (.goto 7, 3) := by decide +kernel
theorem dL_meets_17 : decode cL_meets 17 = .ok (.astore 8, 2) := by decide +kernel
theorem dL_meets_19 : decode cL_meets 19 = .ok (.iconst 1, 1) := by decide +kernel
theorem dL_meets_20 : decode cL_meets 20 = .ok (.ireturn, 1) := by decide +kernel
theorem dL_meets_21 : decode cL_meets 21 = .ok (.iconst 0, 1) := by decide +kernel
theorem dL_meets_22 : decode cL_meets 22 = .ok (.ireturn, 1) := by decide +kernel
theorem dL_overlaps_0 : decode cL_overlaps 0 = .ok (.aload_n 2, 1) := by decide +kernel
theorem dL_overlaps_1 : decode cL_overlaps 1 = .ok (.iconst 0, 1) := by decide +kernel
theorem dL_overlaps_2 : decode cL_overlaps 2 = .ok (.aload_n 0, 1) := by decide +kernel
theorem dL_overlaps_3 : decode cL_overlaps 3 = .ok (.iload_n 1, 1) := by decide +kernel
theorem dL_overlaps_4 : decode cL_overlaps 4 = .ok (.invokevirtual 98, 3) := by decide +kernel
theorem dL_overlaps_7 : decode cL_overlaps 7 = .ok (.lastore, 1) := by decide +kernel
theorem dL_overlaps_8 : decode cL_overlaps 8 = .ok (.goto 6, 3) := by decide +kernel
theorem dL_overlaps_11 : decode cL_overlaps 11 = .ok (.astore_n 3, 1) := by decide +kernel
theorem dL_overlaps_12 : decode cL_overlaps 12 = .ok (.iconst 1, 1) := by decide +kernel
theorem dL_overlaps_13 : decode cL_overlaps 13 = .ok (.ireturn, 1) := by decide +kernel
theorem dL_overlaps_14 : decode cL_overlaps 14 = .ok (.iconst 0, 1) := by decide +kernel
theorem dL_overlaps_15 : decode cL_overlaps 15 = .ok (.ireturn, 1) := by decide +kernel
theorem dL_complete_0 : decode cL_complete 0 = .ok (.aload_n 1, 1) := by decide +kernel
theorem dL_complete_1 : decode cL_complete 1 = .ok (.iconst 0, 1) := by decide +kernel
theorem dL_complete_2 : decode cL_complete 2 = .ok (.aload_n 0, 1) := by decide +kernel
theorem dL_complete_3 : decode cL_complete 3 = .ok (.invokevirtual 101, 3) := by decide +kernel
theorem dL_complete_6 : decode cL_complete 6 = .ok (.i2l, 1) := by decide +kernel
theorem dL_complete_7 : decode cL_complete 7 = .ok (.lastore, 1) := by decide +kernel
theorem dL_complete_8 : decode cL_complete 8 = .ok (.goto 6, 3) := by decide +kernel
theorem dL_complete_11 : decode cL_complete 11 = .ok (.astore_n 2, 1) := by decide +kernel
theorem dL_complete_12 : decode cL_complete 12 = .ok (.iconst 1, 1) := by decide +kernel
theorem dL_complete_13 : decode cL_complete 13 = .ok (.ireturn, 1) := by decide +kernel
theorem dL_complete_14 : decode cL_complete 14 = .ok (.iconst 0, 1) := by decide +kernel
theorem dL_complete_15 : decode cL_complete 15 = .ok (.ireturn, 1) := by decide +kernel
theorem dL_never_0 : decode cL_never 0 = .ok (.aload 6, 2) := by decide +kernel
theorem dL_never_2 : decode cL_never 2 = .ok (.iconst 0, 1) := by decide +kernel
theorem dL_never_3 : decode cL_never 3 = .ok (.aload_n 0, 1) := by decide +kernel
theorem dL_never_4 : decode cL_never 4 = .ok (.lload_n 1, 1) := by decide +kernel
theorem dL_never_5 : decode cL_never 5 = .ok (.lload_n 3, 1) := by decide +kernel
theorem dL_never_6 : decode cL_never 6 = .ok (.iload 5, 2) := by decide +kernel
theorem dL_never_8 : decode cL_never 8 = .ok (.invokevirtual 104, 3) := by decide +kernel
theorem dL_never_11 : decode cL_never 11 = .ok (.i2l, 1) := by decide +kernel
theorem dL_never_12 : decode cL_never 12 = .ok (.lastore, 1) := by decide +kernel
theorem dL_never_13 : decode cL_never 13 = .ok (.goto 11, 3) := by decide +kernel
theorem dL_never_16 : decode cL_never 16 = .ok (.astore 7, 2) := by decide +kernel
theorem dL_never_18 : decode cL_never 18 = .ok (.iconst 1, 1) := by decide +kernel
theorem dL_never_19 : decode cL_never 19 = .ok (.ireturn, 1) := by decide +kernel
theorem dL_never_20 : decode cL_never 20 = .ok (.astore 7, 2) := by decide +kernel
theorem dL_never_22 : decode cL_never 22 = .ok (.iconst 2, 1) := by decide +kernel
theorem dL_never_23 : decode cL_never 23 = .ok (.ireturn, 1) := by decide +kernel
theorem dL_never_24 : decode cL_never 24 = .ok (.iconst 0, 1) := by decide +kernel
theorem dL_never_25 : decode cL_never 25 = .ok (.ireturn, 1) := by decide +kernel
theorem dL_falls_0 : decode cL_falls 0 = .ok (.aload_n 3, 1) := by decide +kernel
theorem dL_falls_1 : decode cL_falls 1 = .ok (.iconst 0, 1) := by decide +kernel
theorem dL_falls_2 : decode cL_falls 2 = .ok (.aload_n 0, 1) := by decide +kernel
theorem dL_falls_3 : decode cL_falls 3 = .ok (.iload_n 1, 1) := by decide +kernel
theorem dL_falls_4 : decode cL_falls 4 = .ok (.iload_n 2, 1) := by decide +kernel
theorem dL_falls_5 : decode cL_falls 5 = .ok (.invokevirtual 108, 3) := by decide +kernel
theorem dL_falls_8 : decode cL_falls 8 = .ok (.i2l, 1) := by decide +kernel
theorem dL_falls_9 : decode cL_falls 9 = .ok (.lastore, 1) := by decide +kernel
theorem dL_falls_10 : decode cL_falls 10 = .ok (.goto 11, 3) := by decide +kernel
theorem dL_falls_13 : decode cL_falls 13 = .ok (.astore 4, 2) := by decide +kernel
theorem dL_falls_15 : decode cL_falls 15 = .ok (.iconst 1, 1) := by decide +kernel
theorem dL_falls_16 : decode cL_falls 16 = .ok (.ireturn, 1) := by decide +kernel
theorem dL_falls_17 : decode cL_falls 17 = .ok (.astore 4, 2) := by decide +kernel
theorem dL_falls_19 : decode cL_falls 19 = .ok (.iconst 2, 1) := by decide +kernel
theorem dL_falls_20 : decode cL_falls 20 = .ok (.ireturn, 1) := by decide +kernel
theorem dL_falls_21 : decode cL_falls 21 = .ok (.iconst 0, 1) := by decide +kernel
theorem dL_falls_22 : decode cL_falls 22 = .ok (.ireturn, 1) := by decide +kernel
theorem dL_light_0 : decode cL_light 0 = .ok (.aload_n 3, 1) := by decide +kernel
theorem dL_light_1 : decode cL_light 1 = .ok (.iconst 0, 1) := by decide +kernel
theorem dL_light_2 : decode cL_light 2 = .ok (.aload_n 0, 1) := by decide +kernel
theorem dL_light_3 : decode cL_light 3 = .ok (.lload_n 1, 1) := by decide +kernel
theorem dL_light_4 : decode cL_light 4 = .ok (.invokevirtual 111, 3) := by decide +kernel
theorem dL_light_7 : decode cL_light 7 = .ok (.i2l, 1) := by decide +kernel
theorem dL_light_8 : decode cL_light 8 = .ok (.lastore, 1) := by decide +kernel
theorem dL_light_9 : decode cL_light 9 = .ok (.goto 7, 3) := by decide +kernel
theorem dL_light_12 : decode cL_light 12 = .ok (.astore 4, 2) := by decide +kernel
theorem dL_light_14 : decode cL_light 14 = .ok (.iconst 1, 1) := by decide +kernel
theorem dL_light_15 : decode cL_light 15 = .ok (.ireturn, 1) := by decide +kernel
theorem dL_light_16 : decode cL_light 16 = .ok (.iconst 0, 1) := by decide +kernel
theorem dL_light_17 : decode cL_light 17 = .ok (.ireturn, 1) := by decide +kernel
theorem dL_loss_0 : decode cL_loss 0 = .ok (.aload_n 2, 1) := by decide +kernel
theorem dL_loss_1 : decode cL_loss 1 = .ok (.iconst 0, 1) := by decide +kernel
theorem dL_loss_2 : decode cL_loss 2 = .ok (.aload_n 0, 1) := by decide +kernel
theorem dL_loss_3 : decode cL_loss 3 = .ok (.iload_n 1, 1) := by decide +kernel
theorem dL_loss_4 : decode cL_loss 4 = .ok (.invokevirtual 115, 3) := by decide +kernel
theorem dL_loss_7 : decode cL_loss 7 = .ok (.i2l, 1) := by decide +kernel
theorem dL_loss_8 : decode cL_loss 8 = .ok (.lastore, 1) := by decide +kernel
theorem dL_loss_9 : decode cL_loss 9 = .ok (.goto 6, 3) := by decide +kernel
theorem dL_loss_12 : decode cL_loss 12 = .ok (.astore_n 3, 1) := by decide +kernel
theorem dL_loss_13 : decode cL_loss 13 = .ok (.iconst 1, 1) := by decide +kernel
theorem dL_loss_14 : decode cL_loss 14 = .ok (.ireturn, 1) := by decide +kernel
theorem dL_loss_15 : decode cL_loss 15 = .ok (.iconst 0, 1) := by decide +kernel
theorem dL_loss_16 : decode cL_loss 16 = .ok (.ireturn, 1) := by decide +kernel
theorem dL_reckons_0 : decode cL_reckons 0 = .ok (.aload_n 3, 1) := by decide +kernel
theorem dL_reckons_1 : decode cL_reckons 1 = .ok (.iconst 0, 1) := by decide +kernel
theorem dL_reckons_2 : decode cL_reckons 2 = .ok (.aload_n 0, 1) := by decide +kernel
theorem dL_reckons_3 : decode cL_reckons 3 = .ok (.iload_n 1, 1) := by decide +kernel
theorem dL_reckons_4 : decode cL_reckons 4 = .ok (.iload_n 2, 1) := by decide +kernel
theorem dL_reckons_5 : decode cL_reckons 5 = .ok (.invokevirtual 118, 3) := by decide +kernel
theorem dL_reckons_8 : decode cL_reckons 8 = .ok (.lastore, 1) := by decide +kernel
theorem dL_reckons_9 : decode cL_reckons 9 = .ok (.goto 7, 3) := by decide +kernel
theorem dL_reckons_12 : decode cL_reckons 12 = .ok (.astore 4, 2) := by decide +kernel
theorem dL_reckons_14 : decode cL_reckons 14 = .ok (.iconst 1, 1) := by decide +kernel
theorem dL_reckons_15 : decode cL_reckons 15 = .ok (.ireturn, 1) := by decide +kernel
theorem dL_reckons_16 : decode cL_reckons 16 = .ok (.iconst 0, 1) := by decide +kernel
theorem dL_reckons_17 : decode cL_reckons 17 = .ok (.ireturn, 1) := by decide +kernel
theorem dL_explained_0 : decode cL_explained 0 = .ok (.aload_n 2, 1) := by decide +kernel
theorem dL_explained_1 : decode cL_explained 1 = .ok (.iconst 0, 1) := by decide +kernel
theorem dL_explained_2 : decode cL_explained 2 = .ok (.aload_n 0, 1) := by decide +kernel
theorem dL_explained_3 : decode cL_explained 3 = .ok (.iload_n 1, 1) := by decide +kernel
theorem dL_explained_4 : decode cL_explained 4 = .ok (.invokevirtual 122, 3) := by decide +kernel
theorem dL_explained_7 : decode cL_explained 7 = .ok (.i2l, 1) := by decide +kernel
theorem dL_explained_8 : decode cL_explained 8 = .ok (.lastore, 1) := by decide +kernel
theorem dL_explained_9 : decode cL_explained 9 = .ok (.goto 6, 3) := by decide +kernel
theorem dL_explained_12 : decode cL_explained 12 = .ok (.astore_n 3, 1) := by decide +kernel
theorem dL_explained_13 : decode cL_explained 13 = .ok (.iconst 1, 1) := by decide +kernel
theorem dL_explained_14 : decode cL_explained 14 = .ok (.ireturn, 1) := by decide +kernel
theorem dL_explained_15 : decode cL_explained 15 = .ok (.iconst 0, 1) := by decide +kernel
theorem dL_explained_16 : decode cL_explained 16 = .ok (.ireturn, 1) := by decide +kernel
theorem dL_guessed_0 : decode cL_guessed 0 = .ok (.aload_n 2, 1) := by decide +kernel
theorem dL_guessed_1 : decode cL_guessed 1 = .ok (.iconst 0, 1) := by decide +kernel
theorem dL_guessed_2 : decode cL_guessed 2 = .ok (.aload_n 0, 1) := by decide +kernel
theorem dL_guessed_3 : decode cL_guessed 3 = .ok (.iload_n 1, 1) := by decide +kernel
theorem dL_guessed_4 : decode cL_guessed 4 = .ok (.invokevirtual 125, 3) := by decide +kernel
theorem dL_guessed_7 : decode cL_guessed 7 = .ok (.lastore, 1) := by decide +kernel
theorem dL_guessed_8 : decode cL_guessed 8 = .ok (.goto 6, 3) := by decide +kernel
theorem dL_guessed_11 : decode cL_guessed 11 = .ok (.astore_n 3, 1) := by decide +kernel
theorem dL_guessed_12 : decode cL_guessed 12 = .ok (.iconst 1, 1) := by decide +kernel
theorem dL_guessed_13 : decode cL_guessed 13 = .ok (.ireturn, 1) := by decide +kernel
theorem dL_guessed_14 : decode cL_guessed 14 = .ok (.iconst 0, 1) := by decide +kernel
theorem dL_guessed_15 : decode cL_guessed 15 = .ok (.ireturn, 1) := by decide +kernel
theorem dL_drovers_0 : decode cL_drovers 0 = .ok (.aload 4, 2) := by decide +kernel
theorem dL_drovers_2 : decode cL_drovers 2 = .ok (.iconst 0, 1) := by decide +kernel
theorem dL_drovers_3 : decode cL_drovers 3 = .ok (.aload_n 0, 1) := by decide +kernel
theorem dL_drovers_4 : decode cL_drovers 4 = .ok (.lload_n 1, 1) := by decide +kernel
theorem dL_drovers_5 : decode cL_drovers 5 = .ok (.iload_n 3, 1) := by decide +kernel
theorem dL_drovers_6 : decode cL_drovers 6 = .ok (.invokevirtual 128, 3) := by decide +kernel
theorem dL_drovers_9 : decode cL_drovers 9 = .ok (.i2l, 1) := by decide +kernel
theorem dL_drovers_10 : decode cL_drovers 10 = .ok (.lastore, 1) := by decide +kernel
theorem dL_drovers_11 : decode cL_drovers 11 = .ok (.goto 7, 3) := by decide +kernel
theorem dL_drovers_14 : decode cL_drovers 14 = .ok (.astore 5, 2) := by decide +kernel
theorem dL_drovers_16 : decode cL_drovers 16 = .ok (.iconst 1, 1) := by decide +kernel
theorem dL_drovers_17 : decode cL_drovers 17 = .ok (.ireturn, 1) := by decide +kernel
theorem dL_drovers_18 : decode cL_drovers 18 = .ok (.iconst 0, 1) := by decide +kernel
theorem dL_drovers_19 : decode cL_drovers 19 = .ok (.ireturn, 1) := by decide +kernel
theorem dL_best_0 : decode cL_best 0 = .ok (.aload 4, 2) := by decide +kernel
theorem dL_best_2 : decode cL_best 2 = .ok (.iconst 0, 1) := by decide +kernel
theorem dL_best_3 : decode cL_best 3 = .ok (.aload_n 0, 1) := by decide +kernel
theorem dL_best_4 : decode cL_best 4 = .ok (.lload_n 1, 1) := by decide +kernel
theorem dL_best_5 : decode cL_best 5 = .ok (.iload_n 3, 1) := by decide +kernel
theorem dL_best_6 : decode cL_best 6 = .ok (.invokevirtual 131, 3) := by decide +kernel
theorem dL_best_9 : decode cL_best 9 = .ok (.i2l, 1) := by decide +kernel
theorem dL_best_10 : decode cL_best 10 = .ok (.lastore, 1) := by decide +kernel
theorem dL_best_11 : decode cL_best 11 = .ok (.goto 7, 3) := by decide +kernel
theorem dL_best_14 : decode cL_best 14 = .ok (.astore 5, 2) := by decide +kernel
theorem dL_best_16 : decode cL_best 16 = .ok (.iconst 1, 1) := by decide +kernel
theorem dL_best_17 : decode cL_best 17 = .ok (.ireturn, 1) := by decide +kernel
theorem dL_best_18 : decode cL_best 18 = .ok (.iconst 0, 1) := by decide +kernel
theorem dL_best_19 : decode cL_best 19 = .ok (.ireturn, 1) := by decide +kernel
theorem dL_sorts_0 : decode cL_sorts 0 = .ok (.aload_n 2, 1) := by decide +kernel
theorem dL_sorts_1 : decode cL_sorts 1 = .ok (.iconst 0, 1) := by decide +kernel
theorem dL_sorts_2 : decode cL_sorts 2 = .ok (.aload_n 0, 1) := by decide +kernel
theorem dL_sorts_3 : decode cL_sorts 3 = .ok (.iload_n 1, 1) := by decide +kernel
theorem dL_sorts_4 : decode cL_sorts 4 = .ok (.invokevirtual 134, 3) := by decide +kernel
theorem dL_sorts_7 : decode cL_sorts 7 = .ok (.i2l, 1) := by decide +kernel
theorem dL_sorts_8 : decode cL_sorts 8 = .ok (.lastore, 1) := by decide +kernel
theorem dL_sorts_9 : decode cL_sorts 9 = .ok (.goto 6, 3) := by decide +kernel
theorem dL_sorts_12 : decode cL_sorts 12 = .ok (.astore_n 3, 1) := by decide +kernel
theorem dL_sorts_13 : decode cL_sorts 13 = .ok (.iconst 1, 1) := by decide +kernel
theorem dL_sorts_14 : decode cL_sorts 14 = .ok (.ireturn, 1) := by decide +kernel
theorem dL_sorts_15 : decode cL_sorts 15 = .ok (.iconst 0, 1) := by decide +kernel
theorem dL_sorts_16 : decode cL_sorts 16 = .ok (.ireturn, 1) := by decide +kernel
