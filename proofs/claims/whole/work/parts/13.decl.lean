theorem dL_valley_0 : decode cL_valley 0 = .ok (.aload_n 1, 1) := by decide +kernel
theorem dL_valley_1 : decode cL_valley 1 = .ok (.iconst 0, 1) := by decide +kernel
theorem dL_valley_2 : decode cL_valley 2 = .ok (.aload_n 0, 1) := by decide +kernel
theorem dL_valley_3 : decode cL_valley 3 = .ok (.invokevirtual 7, 3) := by decide +kernel
theorem dL_valley_6 : decode cL_valley 6 = .ok (.i2l, 1) := by decide +kernel
theorem dL_valley_7 : decode cL_valley 7 = .ok (.lastore, 1) := by decide +kernel
theorem dL_valley_8 : decode cL_valley 8 = .ok (.goto 9, 3) := by decide +kernel
theorem dL_valley_11 : decode cL_valley 11 = .ok (.astore_n 2, 1) := by decide +kernel
theorem dL_valley_12 : decode cL_valley 12 = .ok (.iconst 1, 1) := by decide +kernel
theorem dL_valley_13 : decode cL_valley 13 = .ok (.ireturn, 1) := by decide +kernel
theorem dL_valley_14 : decode cL_valley 14 = .ok (.astore_n 2, 1) := by decide +kernel
theorem dL_valley_15 : decode cL_valley 15 = .ok (.iconst 2, 1) := by decide +kernel
theorem dL_valley_16 : decode cL_valley 16 = .ok (.ireturn, 1) := by decide +kernel
theorem dL_valley_17 : decode cL_valley 17 = .ok (.iconst 0, 1) := by decide +kernel
theorem dL_valley_18 : decode cL_valley 18 = .ok (.ireturn, 1) := by decide +kernel
theorem dL_law_0 : decode cL_law 0 = .ok (.aload_n 1, 1) := by decide +kernel
theorem dL_law_1 : decode cL_law 1 = .ok (.iconst 0, 1) := by decide +kernel
theorem dL_law_2 : decode cL_law 2 = .ok (.aload_n 0, 1) := by decide +kernel
theorem dL_law_3 : decode cL_law 3 = .ok (.invokevirtual 17, 3) := by decide +kernel
theorem dL_law_6 : decode cL_law 6 = .ok (.i2l, 1) := by decide +kernel
theorem dL_law_7 : decode cL_law 7 = .ok (.lastore, 1) := by decide +kernel
theorem dL_law_8 : decode cL_law 8 = .ok (.goto 6, 3) := by decide +kernel
theorem dL_law_11 : decode cL_law 11 = .ok (.astore_n 2, 1) := by decide +kernel
theorem dL_law_12 : decode cL_law 12 = .ok (.iconst 1, 1) := by decide +kernel
theorem dL_law_13 : decode cL_law 13 = .ok (.ireturn, 1) := by decide +kernel
theorem dL_law_14 : decode cL_law 14 = .ok (.iconst 0, 1) := by decide +kernel
theorem dL_law_15 : decode cL_law 15 = .ok (.ireturn, 1) := by decide +kernel
theorem dL_rule_0 : decode cL_rule 0 = .ok (.aload_n 3, 1) := by decide +kernel
theorem dL_rule_1 : decode cL_rule 1 = .ok (.iconst 0, 1) := by decide +kernel
theorem dL_rule_2 : decode cL_rule 2 = .ok (.aload_n 0, 1) := by decide +kernel
theorem dL_rule_3 : decode cL_rule 3 = .ok (.iload_n 1, 1) := by decide +kernel
theorem dL_rule_4 : decode cL_rule 4 = .ok (.iload_n 2, 1) := by decide +kernel
theorem dL_rule_5 : decode cL_rule 5 = .ok (.invokevirtual 20, 3) := by decide +kernel
theorem dL_rule_8 : decode cL_rule 8 = .ok (.lastore, 1) := by decide +kernel
theorem dL_rule_9 : decode cL_rule 9 = .ok (.goto 7, 3) := by decide +kernel
theorem dL_rule_12 : decode cL_rule 12 = .ok (.astore 4, 2) := by decide +kernel
theorem dL_rule_14 : decode cL_rule 14 = .ok (.iconst 1, 1) := by decide +kernel
theorem dL_rule_15 : decode cL_rule 15 = .ok (.ireturn, 1) := by decide +kernel
theorem dL_rule_16 : decode cL_rule 16 = .ok (.iconst 0, 1) := by decide +kernel
theorem dL_rule_17 : decode cL_rule 17 = .ok (.ireturn, 1) := by decide +kernel
theorem dL_field_0 : decode cL_field 0 = .ok (.aload_n 2, 1) := by decide +kernel
theorem dL_field_1 : decode cL_field 1 = .ok (.iconst 0, 1) := by decide +kernel
theorem dL_field_2 : decode cL_field 2 = .ok (.aload_n 0, 1) := by decide +kernel
theorem dL_field_3 : decode cL_field 3 = .ok (.iload_n 1, 1) := by decide +kernel
theorem dL_field_4 : decode cL_field 4 = .ok (.invokevirtual 26, 3) := by decide +kernel
theorem dL_field_7 : decode cL_field 7 = .ok (.lastore, 1) := by decide +kernel
theorem dL_field_8 : decode cL_field 8 = .ok (.goto 6, 3) := by decide +kernel
theorem dL_field_11 : decode cL_field 11 = .ok (.astore_n 3, 1) := by decide +kernel
theorem dL_field_12 : decode cL_field 12 = .ok (.iconst 1, 1) := by decide +kernel
theorem dL_field_13 : decode cL_field 13 = .ok (.ireturn, 1) := by decide +kernel
theorem dL_field_14 : decode cL_field 14 = .ok (.iconst 0, 1) := by decide +kernel
theorem dL_field_15 : decode cL_field 15 = .ok (.ireturn, 1) := by decide +kernel
theorem dL_seen_0 : decode cL_seen 0 = .ok (.aload_n 3, 1) := by decide +kernel
theorem dL_seen_1 : decode cL_seen 1 = .ok (.iconst 0, 1) := by decide +kernel
theorem dL_seen_2 : decode cL_seen 2 = .ok (.aload_n 0, 1) := by decide +kernel
theorem dL_seen_3 : decode cL_seen 3 = .ok (.iload_n 1, 1) := by decide +kernel
theorem dL_seen_4 : decode cL_seen 4 = .ok (.iload_n 2, 1) := by decide +kernel
theorem dL_seen_5 : decode cL_seen 5 = .ok (.invokevirtual 30, 3) := by decide +kernel
theorem dL_seen_8 : decode cL_seen 8 = .ok (.lastore, 1) := by decide +kernel
theorem dL_seen_9 : decode cL_seen 9 = .ok (.goto 7, 3) := by decide +kernel
theorem dL_seen_12 : decode cL_seen 12 = .ok (.astore 4, 2) := by decide +kernel
theorem dL_seen_14 : decode cL_seen 14 = .ok (.iconst 1, 1) := by decide +kernel
theorem dL_seen_15 : decode cL_seen 15 = .ok (.ireturn, 1) := by decide +kernel
theorem dL_seen_16 : decode cL_seen 16 = .ok (.iconst 0, 1) := by decide +kernel
theorem dL_seen_17 : decode cL_seen 17 = .ok (.ireturn, 1) := by decide +kernel
theorem dL_beast_0 : decode cL_beast 0 = .ok (.aload 4, 2) := by decide +kernel
theorem dL_beast_2 : decode cL_beast 2 = .ok (.iconst 0, 1) := by decide +kernel
theorem dL_beast_3 : decode cL_beast 3 = .ok (.aload_n 0, 1) := by decide +kernel
theorem dL_beast_4 : decode cL_beast 4 = .ok (.lload_n 1, 1) := by decide +kernel
theorem dL_beast_5 : decode cL_beast 5 = .ok (.iload_n 3, 1) := by decide +kernel
theorem dL_beast_6 : decode cL_beast 6 = .ok (.invokevirtual 33, 3) := by decide +kernel
theorem dL_beast_9 : decode cL_beast 9 = .ok (.i2l, 1) := by decide +kernel
theorem dL_beast_10 : decode cL_beast 10 = .ok (.lastore, 1) := by decide +kernel
theorem dL_beast_11 : decode cL_beast 11 = .ok (.goto 7, 3) := by decide +kernel
theorem dL_beast_14 : decode cL_beast 14 = .ok (.astore 5, 2) := by decide +kernel
theorem dL_beast_16 : decode cL_beast 16 = .ok (.iconst 1, 1) := by decide +kernel
theorem dL_beast_17 : decode cL_beast 17 = .ok (.ireturn, 1) := by decide +kernel
theorem dL_beast_18 : decode cL_beast 18 = .ok (.iconst 0, 1) := by decide +kernel
theorem dL_beast_19 : decode cL_beast 19 = .ok (.ireturn, 1) := by decide +kernel
theorem dL_steps_0 : decode cL_steps 0 = .ok (.aload_n 2, 1) := by decide +kernel
theorem dL_steps_1 : decode cL_steps 1 = .ok (.iconst 0, 1) := by decide +kernel
theorem dL_steps_2 : decode cL_steps 2 = .ok (.aload_n 0, 1) := by decide +kernel
theorem dL_steps_3 : decode cL_steps 3 = .ok (.iload_n 1, 1) := by decide +kernel
theorem dL_steps_4 : decode cL_steps 4 = .ok (.invokevirtual 37, 3) := by decide +kernel
theorem dL_steps_7 : decode cL_steps 7 = .ok (.i2l, 1) := by decide +kernel
theorem dL_steps_8 : decode cL_steps 8 = .ok (.lastore, 1) := by decide +kernel
theorem dL_steps_9 : decode cL_steps 9 = .ok (.goto 6, 3) := by decide +kernel
theorem dL_steps_12 : decode cL_steps 12 = .ok (.astore_n 3, 1) := by decide +kernel
theorem dL_steps_13 : decode cL_steps 13 = .ok (.iconst 1, 1) := by decide +kernel
theorem dL_steps_14 : decode cL_steps 14 = .ok (.ireturn, 1) := by decide +kernel
theorem dL_steps_15 : decode cL_steps 15 = .ok (.iconst 0, 1) := by decide +kernel
theorem dL_steps_16 : decode cL_steps 16 = .ok (.ireturn, 1) := by decide +kernel
theorem dL_maker_0 : decode cL_maker 0 = .ok (.aload 4, 2) := by decide +kernel
theorem dL_maker_2 : decode cL_maker 2 = .ok (.iconst 0, 1) := by decide +kernel
theorem dL_maker_3 : decode cL_maker 3 = .ok (.aload_n 0, 1) := by decide +kernel
theorem dL_maker_4 : decode cL_maker 4 = .ok (.iload_n 1, 1) := by decide +kernel
theorem dL_maker_5 : decode cL_maker 5 = .ok (.iload_n 2, 1) := by decide +kernel
theorem dL_maker_6 : decode cL_maker 6 = .ok (.iload_n 3, 1) := by decide +kernel
theorem dL_maker_7 : decode cL_maker 7 = .ok (.invokevirtual 41, 3) := by decide +kernel
theorem dL_maker_10 : decode cL_maker 10 = .ok (.i2l, 1) := by decide +kernel
theorem dL_maker_11 : decode cL_maker 11 = .ok (.lastore, 1) := by decide +kernel
theorem dL_maker_12 : decode cL_maker 12 = .ok (.goto 11, 3) := by decide +kernel
theorem dL_maker_15 : decode cL_maker 15 = .ok (.astore 5, 2) := by decide +kernel
theorem dL_maker_17 : decode cL_maker 17 = .ok (.iconst 1, 1) := by decide +kernel
theorem dL_maker_18 : decode cL_maker 18 = .ok (.ireturn, 1) := by decide +kernel
theorem dL_maker_19 : decode cL_maker 19 = .ok (.astore 5, 2) := by decide +kernel
theorem dL_maker_21 : decode cL_maker 21 = .ok (.iconst 2, 1) := by decide +kernel
theorem dL_maker_22 : decode cL_maker 22 = .ok (.ireturn, 1) := by decide +kernel
theorem dL_maker_23 : decode cL_maker 23 = .ok (.iconst 0, 1) := by decide +kernel
theorem dL_maker_24 : decode cL_maker 24 = .ok (.ireturn, 1) := by decide +kernel
theorem dL_fits_0 : decode cL_fits 0 = .ok (.aload 5, 2) := by decide +kernel
theorem dL_fits_2 : decode cL_fits 2 = .ok (.iconst 0, 1) := by decide +kernel
theorem dL_fits_3 : decode cL_fits 3 = .ok (.aload_n 0, 1) := by decide +kernel
theorem dL_fits_4 : decode cL_fits 4 = .ok (.lload_n 1, 1) := by decide +kernel
theorem dL_fits_5 : decode cL_fits 5 = .ok (.iload_n 3, 1) := by decide +kernel
theorem dL_fits_6 : decode cL_fits 6 = .ok (.iload 4, 2) := by decide +kernel
theorem dL_fits_8 : decode cL_fits 8 = .ok (.invokevirtual 47, 3) := by decide +kernel
theorem dL_fits_11 : decode cL_fits 11 = .ok (.ifCond .eq 7, 3) := by decide +kernel
theorem dL_fits_14 : decode cL_fits 14 = .ok (.lconst 1, 1) := by decide +kernel
theorem dL_fits_15 : decode cL_fits 15 = .ok (.goto 4, 3) := by decide +kernel
theorem dL_fits_18 : decode cL_fits 18 = .ok (.lconst 0, 1) := by decide +kernel
theorem dL_fits_19 : decode cL_fits 19 = .ok (.lastore, 1) := by decide +kernel
theorem dL_fits_20 : decode cL_fits 20 = .ok (.goto 11, 3) := by decide +kernel
theorem dL_fits_23 : decode cL_fits 23 = .ok (.astore 6, 2) := by decide +kernel
theorem dL_fits_25 : decode cL_fits 25 = .ok (.iconst 1, 1) := by decide +kernel
theorem dL_fits_26 : decode cL_fits 26 = .ok (.ireturn, 1) := by decide +kernel
theorem dL_fits_27 : decode cL_fits 27 = .ok (.astore 6, 2) := by decide +kernel
theorem dL_fits_29 : decode cL_fits 29 = .ok (.iconst 2, 1) := by decide +kernel
theorem dL_fits_30 : decode cL_fits 30 = .ok (.ireturn, 1) := by decide +kernel
theorem dL_fits_31 : decode cL_fits 31 = .ok (.iconst 0, 1) := by decide +kernel
theorem dL_fits_32 : decode cL_fits 32 = .ok (.ireturn, 1) := by decide +kernel
theorem dL_use_0 : decode cL_use 0 = .ok (.aload 4, 2) := by decide +kernel
theorem dL_use_2 : decode cL_use 2 = .ok (.iconst 0, 1) := by decide +kernel
theorem dL_use_3 : decode cL_use 3 = .ok (.aload_n 0, 1) := by decide +kernel
theorem dL_use_4 : decode cL_use 4 = .ok (.iload_n 1, 1) := by decide +kernel
theorem dL_use_5 : decode cL_use 5 = .ok (.iload_n 2, 1) := by decide +kernel
theorem dL_use_6 : decode cL_use 6 = .ok (.iload_n 3, 1) := by decide +kernel
theorem dL_use_7 : decode cL_use 7 = .ok (.invokevirtual 51, 3) := by decide +kernel
theorem dL_use_10 : decode cL_use 10 = .ok (.lastore, 1) := by decide +kernel
theorem dL_use_11 : decode cL_use 11 = .ok (.goto 11, 3) := by decide +kernel
theorem dL_use_14 : decode cL_use 14 = .ok (.astore 5, 2) := by decide +kernel
theorem dL_use_16 : decode cL_use 16 = .ok (.iconst 1, 1) := by decide +kernel
theorem dL_use_17 : decode cL_use 17 = .ok (.ireturn, 1) := by decide +kernel
theorem dL_use_18 : decode cL_use 18 = .ok (.astore 5, 2) := by decide +kernel
theorem dL_use_20 : decode cL_use 20 = .ok (.iconst 2, 1) := by decide +kernel
theorem dL_use_21 : decode cL_use 21 = .ok (.ireturn, 1) := by decide +kernel
theorem dL_use_22 : decode cL_use 22 = .ok (.iconst 0, 1) := by decide +kernel
theorem dL_use_23 : decode cL_use 23 = .ok (.ireturn, 1) := by decide +kernel
theorem dL_run_0 : decode cL_run 0 = .ok (.aload_n 3, 1) := by decide +kernel
theorem dL_run_1 : decode cL_run 1 = .ok (.iconst 0, 1) := by decide +kernel
theorem dL_run_2 : decode cL_run 2 = .ok (.aload_n 0, 1) := by decide +kernel
theorem dL_run_3 : decode cL_run 3 = .ok (.iload_n 1, 1) := by decide +kernel
theorem dL_run_4 : decode cL_run 4 = .ok (.iload_n 2, 1) := by decide +kernel
theorem dL_run_5 : decode cL_run 5 = .ok (.invokevirtual 57, 3) := by decide +kernel
theorem dL_run_8 : decode cL_run 8 = .ok (.i2l, 1) := by decide +kernel
theorem dL_run_9 : decode cL_run 9 = .ok (.lastore, 1) := by decide +kernel
theorem dL_run_10 : decode cL_run 10 = .ok (.goto 11, 3) := by decide +kernel
theorem dL_run_13 : decode cL_run 13 = .ok (.astore 4, 2) := by decide +kernel
theorem dL_run_15 : decode cL_run 15 = .ok (.iconst 1, 1) := by decide +kernel
theorem dL_run_16 : decode cL_run 16 = .ok (.ireturn, 1) := by decide +kernel
theorem dL_run_17 : decode cL_run 17 = .ok (.astore 4, 2) := by decide +kernel
theorem dL_run_19 : decode cL_run 19 = .ok (.iconst 2, 1) := by decide +kernel
theorem dL_run_20 : decode cL_run 20 = .ok (.ireturn, 1) := by decide +kernel
theorem dL_run_21 : decode cL_run 21 = .ok (.iconst 0, 1) := by decide +kernel
theorem dL_run_22 : decode cL_run 22 = .ok (.ireturn, 1) := by decide +kernel
theorem dL_put_0 : decode cL_put 0 = .ok (.aload 4, 2) := by decide +kernel
theorem dL_put_2 : decode cL_put 2 = .ok (.iconst 0, 1) := by decide +kernel
theorem dL_put_3 : decode cL_put 3 = .ok (.aload_n 0, 1) := by decide +kernel
theorem dL_put_4 : decode cL_put 4 = .ok (.iload_n 1, 1) := by decide +kernel
theorem dL_put_5 : decode cL_put 5 = .ok (.lload_n 2, 1) := by decide +kernel
theorem dL_put_6 : decode cL_put 6 = .ok (.invokevirtual 61, 3) := by decide +kernel
theorem dL_put_9 : decode cL_put 9 = .ok (.lastore, 1) := by decide +kernel
theorem dL_put_10 : decode cL_put 10 = .ok (.goto 11, 3) := by decide +kernel
theorem dL_put_13 : decode cL_put 13 = .ok (.astore 5, 2) := by decide +kernel
theorem dL_put_15 : decode cL_put 15 = .ok (.iconst 1, 1) := by decide +kernel
theorem dL_put_16 : decode cL_put 16 = .ok (.ireturn, 1) := by decide +kernel
theorem dL_put_17 : decode cL_put 17 = .ok (.astore 5, 2) := by decide +kernel
theorem dL_put_19 : decode cL_put 19 = .ok (.iconst 2, 1) := by decide +kernel
theorem dL_put_20 : decode cL_put 20 = .ok (.ireturn, 1) := by decide +kernel
theorem dL_put_21 : decode cL_put 21 = .ok (.iconst 0, 1) := by decide +kernel
theorem dL_put_22 : decode cL_put 22 = .ok (.ireturn, 1) := by decide +kernel
theorem dL_add_0 : decode cL_add 0 = .ok (.aload 5, 2) := by decide +kernel
theorem dL_add_2 : decode cL_add 2 = .ok (.iconst 0, 1) := by decide +kernel
theorem dL_add_3 : decode cL_add 3 = .ok (.aload_n 0, 1) := by decide +kernel
theorem dL_add_4 : decode cL_add 4 = .ok (.lload_n 1, 1) := by decide +kernel
theorem dL_add_5 : decode cL_add 5 = .ok (.lload_n 3, 1) := by decide +kernel
theorem dL_add_6 : decode cL_add 6 = .ok (.invokevirtual 65, 3) := by decide +kernel
theorem dL_add_9 : decode cL_add 9 = .ok (.i2l, 1) := by decide +kernel
theorem dL_add_10 : decode cL_add 10 = .ok (.lastore, 1) := by decide +kernel
theorem dL_add_11 : decode cL_add 11 = .ok (.goto 11, 3) := by decide +kernel
theorem dL_add_14 : decode cL_add 14 = .ok (.astore 6, 2) := by decide +kernel
theorem dL_add_16 : decode cL_add 16 = .ok (.iconst 1, 1) := by decide +kernel
theorem dL_add_17 : decode cL_add 17 = .ok (.ireturn, 1) := by decide +kernel
theorem dL_add_18 : decode cL_add 18 = .ok (.astore 6, 2) := by decide +kernel
theorem dL_add_20 : decode cL_add 20 = .ok (.iconst 2, 1) := by decide +kernel
theorem dL_add_21 : decode cL_add 21 = .ok (.ireturn, 1) := by decide +kernel
theorem dL_add_22 : decode cL_add 22 = .ok (.iconst 0, 1) := by decide +kernel
theorem dL_add_23 : decode cL_add 23 = .ok (.ireturn, 1) := by decide +kernel
theorem dL_drop_0 : decode cL_drop 0 = .ok (.aload_n 2, 1) := by decide +kernel
theorem dL_drop_1 : decode cL_drop 1 = .ok (.iconst 0, 1) := by decide +kernel
theorem dL_drop_2 : decode cL_drop 2 = .ok (.aload_n 0, 1) := by decide +kernel
theorem dL_drop_3 : decode cL_drop 3 = .ok (.iload_n 1, 1) := by decide +kernel
theorem dL_drop_4 : decode cL_drop 4 = .ok (.invokevirtual 69, 3) := by decide +kernel
theorem dL_drop_7 : decode cL_drop 7 = .ok (.i2l, 1) := by decide +kernel
theorem dL_drop_8 : decode cL_drop 8 = .ok (.lastore, 1) := by decide +kernel
theorem dL_drop_9 : decode cL_drop 9 = .ok (.goto 6, 3) := by decide +kernel
theorem dL_drop_12 : decode cL_drop 12 = .ok (.astore_n 3, 1) := by decide +kernel
theorem dL_drop_13 : decode cL_drop 13 = .ok (.iconst 1, 1) := by decide +kernel
theorem dL_drop_14 : decode cL_drop 14 = .ok (.ireturn, 1) := by decide +kernel
theorem dL_drop_15 : decode cL_drop 15 = .ok (.iconst 0, 1) := by decide +kernel
theorem dL_drop_16 : decode cL_drop 16 = .ok (.ireturn, 1) := by decide +kernel
theorem dL_years_0 : decode cL_years 0 = .ok (.aload_n 3, 1) := by decide +kernel
theorem dL_years_1 : decode cL_years 1 = .ok (.iconst 0, 1) := by decide +kernel
theorem dL_years_2 : decode cL_years 2 = .ok (.aload_n 0, 1) := by decide +kernel
theorem dL_years_3 : decode cL_years 3 = .ok (.iload_n 1, 1) := by decide +kernel
theorem dL_years_4 : decode cL_years 4 = .ok (.iload_n 2, 1) := by decide +kernel
theorem dL_years_5 : decode cL_years 5 = .ok (.invokevirtual 72, 3) := by decide +kernel
theorem dL_years_8 : decode cL_years 8 = .ok (.i2l, 1) := by decide +kernel
theorem dL_years_9 : decode cL_years 9 = .ok (.lastore, 1) := by decide +kernel
theorem dL_years_10 : decode cL_years 10 = .ok (.goto 11, 3) := by decide +kernel
theorem dL_years_13 : decode cL_years 13 = .ok (.astore 4, 2) := by decide +kernel
theorem dL_years_15 : decode cL_years 15 = .ok (.iconst 1, 1) := by decide +kernel
theorem dL_years_16 : decode cL_years 16 = .ok (.ireturn, 1) := by decide +kernel
theorem dL_years_17 : decode cL_years 17 = .ok (.astore 4, 2) := by decide +kernel
theorem dL_years_19 : decode cL_years 19 = .ok (.iconst 2, 1) := by decide +kernel
theorem dL_years_20 : decode cL_years 20 = .ok (.ireturn, 1) := by decide +kernel
theorem dL_years_21 : decode cL_years 21 = .ok (.iconst 0, 1) := by decide +kernel
theorem dL_years_22 : decode cL_years 22 = .ok (.ireturn, 1) := by decide +kernel
theorem dL_settles_0 : decode cL_settles 0 = .ok (.aload 5, 2) := by decide +kernel
theorem dL_settles_2 : decode cL_settles 2 = .ok (.iconst 0, 1) := by decide +kernel
theorem dL_settles_3 : decode cL_settles 3 = .ok (.aload_n 0, 1) := by decide +kernel
theorem dL_settles_4 : decode cL_settles 4 = .ok (.lload_n 1, 1) := by decide +kernel
theorem dL_settles_5 : decode cL_settles 5 = .ok (.iload_n 3, 1) := by decide +kernel
theorem dL_settles_6 : decode cL_settles 6 = .ok (.iload 4, 2) := by decide +kernel
theorem dL_settles_8 : decode cL_settles 8 = .ok (.invokevirtual 75, 3) := by decide +kernel
theorem dL_settles_11 : decode cL_settles 11 = .ok (.lastore, 1) := by decide +kernel
theorem dL_settles_12 : decode cL_settles 12 = .ok (.goto 7, 3) := by decide +kernel
theorem dL_settles_15 : decode cL_settles 15 = .ok (.astore 6, 2) := by decide +kernel
theorem dL_settles_17 : decode cL_settles 17 = .ok (.iconst 1, 1) := by decide +kernel
theorem dL_settles_18 : decode cL_settles 18 = .ok (.ireturn, 1) := by decide +kernel
theorem dL_settles_19 : decode cL_settles 19 = .ok (.iconst 0, 1) := by decide +kernel
theorem dL_settles_20 : decode cL_settles 20 = .ok (.ireturn, 1) := by decide +kernel
theorem dL_again_0 : decode cL_again 0 = .ok (.aload 4, 2) := by decide +kernel
theorem dL_again_2 : decode cL_again 2 = .ok (.iconst 0, 1) := by decide +kernel
theorem dL_again_3 : decode cL_again 3 = .ok (.aload_n 0, 1) := by decide +kernel
theorem dL_again_4 : decode cL_again 4 = .ok (.lload_n 1, 1) := by decide +kernel
theorem dL_again_5 : decode cL_again 5 = .ok (.iload_n 3, 1) := by decide +kernel
theorem dL_again_6 : decode cL_again 6 = .ok (.invokevirtual 79, 3) := by decide +kernel
theorem dL_again_9 : decode cL_again 9 = .ok (.i2l, 1) := by decide +kernel
theorem dL_again_10 : decode cL_again 10 = .ok (.lastore, 1) := by decide +kernel
theorem dL_again_11 : decode cL_again 11 = .ok (.goto 7, 3) := by decide +kernel
theorem dL_again_14 : decode cL_again 14 = .ok (.astore 5, 2) := by decide +kernel
theorem dL_again_16 : decode cL_again 16 = .ok (.iconst 1, 1) := by decide +kernel
theorem dL_again_17 : decode cL_again 17 = .ok (.ireturn, 1) := by decide +kernel
theorem dL_again_18 : decode cL_again 18 = .ok (.iconst 0, 1) := by decide +kernel
theorem dL_again_19 : decode cL_again 19 = .ok (.ireturn, 1) := by decide +kernel
theorem dL_alike_0 : decode cL_alike 0 = .ok (.aload 5, 2) := by decide +kernel
theorem dL_alike_2 : decode cL_alike 2 = .ok (.iconst 0, 1) := by decide +kernel
theorem dL_alike_3 : decode cL_alike 3 = .ok (.aload_n 0, 1) := by decide +kernel
theorem dL_alike_4 : decode cL_alike 4 = .ok (.lload_n 1, 1) := by decide +kernel
theorem dL_alike_5 : decode cL_alike 5 = .ok (.lload_n 3, 1) := by decide +kernel
theorem dL_alike_6 : decode cL_alike 6 = .ok (.invokevirtual 83, 3) := by decide +kernel
theorem dL_alike_9 : decode cL_alike 9 = .ok (.ifCond .eq 7, 3) := by decide +kernel
theorem dL_alike_12 : decode cL_alike 12 = .ok (.lconst 1, 1) := by decide +kernel
theorem dL_alike_13 : decode cL_alike 13 = .ok (.goto 4, 3) := by decide +kernel
theorem dL_alike_16 : decode cL_alike 16 = .ok (.lconst 0, 1) := by decide +kernel
theorem dL_alike_17 : decode cL_alike 17 = .ok (.lastore, 1) := by decide +kernel
theorem dL_alike_18 : decode cL_alike 18 = .ok (.goto 7, 3) := by decide +kernel
theorem dL_alike_21 : decode cL_alike 21 = .ok (.astore 6, 2) := by decide +kernel
theorem dL_alike_23 : decode cL_alike 23 = .ok (.iconst 1, 1) := by decide +kernel
theorem dL_alike_24 : decode cL_alike 24 = .ok (.ireturn, 1) := by decide +kernel
theorem dL_alike_25 : decode cL_alike 25 = .ok (.iconst 0, 1) := by decide +kernel
theorem dL_alike_26 : decode cL_alike 26 = .ok (.ireturn, 1) := by decide +kernel
theorem dL_becomes_0 : decode cL_becomes 0 = .ok (.aload 5, 2) := by decide +kernel
theorem dL_becomes_2 : decode cL_becomes 2 = .ok (.iconst 0, 1) := by decide +kernel
theorem dL_becomes_3 : decode cL_becomes 3 = .ok (.aload_n 0, 1) := by decide +kernel
theorem dL_becomes_4 : decode cL_becomes 4 = .ok (.lload_n 1, 1) := by decide +kernel
theorem dL_becomes_5 : decode cL_becomes 5 = .ok (.iload_n 3, 1) := by decide +kernel
theorem dL_becomes_6 : decode cL_becomes 6 = .ok (.iload 4, 2) := by decide +kernel
theorem dL_becomes_8 : decode cL_becomes 8 = .ok (.invokevirtual 87, 3) := by decide +kernel
theorem dL_becomes_11 : decode cL_becomes 11 = .ok (.lastore, 1) := by decide +kernel
theorem dL_becomes_12 : decode cL_becomes 12 = .ok (.goto 11, 3) := by decide +kernel
theorem dL_becomes_15 : decode cL_becomes 15 = .ok (.astore 6, 2) := by decide +kernel
theorem dL_becomes_17 : decode cL_becomes 17 = .ok (.iconst 1, 1) := by decide +kernel
theorem dL_becomes_18 : decode cL_becomes 18 = .ok (.ireturn, 1) := by decide +kernel
theorem dL_becomes_19 : decode cL_becomes 19 = .ok (.astore 6, 2) := by decide +kernel
theorem dL_becomes_21 : decode cL_becomes 21 = .ok (.iconst 2, 1) := by decide +kernel
theorem dL_becomes_22 : decode cL_becomes 22 = .ok (.ireturn, 1) := by decide +kernel
theorem dL_becomes_23 : decode cL_becomes 23 = .ok (.iconst 0, 1) := by decide +kernel
theorem dL_becomes_24 : decode cL_becomes 24 = .ok (.ireturn, 1) := by decide +kernel
theorem dL_fewest_0 : decode cL_fewest 0 = .ok (.aload 5, 2) := by decide +kernel
theorem dL_fewest_2 : decode cL_fewest 2 = .ok (.iconst 0, 1) := by decide +kernel
theorem dL_fewest_3 : decode cL_fewest 3 = .ok (.aload_n 0, 1) := by decide +kernel
theorem dL_fewest_4 : decode cL_fewest 4 = .ok (.lload_n 1, 1) := by decide +kernel
theorem dL_fewest_5 : decode cL_fewest 5 = .ok (.lload_n 3, 1) := by decide +kernel
theorem dL_fewest_6 : decode cL_fewest 6 = .ok (.invokevirtual 91, 3) := by decide +kernel
theorem dL_fewest_9 : decode cL_fewest 9 = .ok (.i2l, 1) := by decide +kernel
theorem dL_fewest_10 : decode cL_fewest 10 = .ok (.lastore, 1) := by decide +kernel
theorem dL_fewest_11 : decode cL_fewest 11 = .ok (.goto 7, 3) := by decide +kernel
theorem dL_fewest_14 : decode cL_fewest 14 = .ok (.astore 6, 2) := by decide +kernel
theorem dL_fewest_16 : decode cL_fewest 16 = .ok (.iconst 1, 1) := by decide +kernel
theorem dL_fewest_17 : decode cL_fewest 17 = .ok (.ireturn, 1) := by decide +kernel
theorem dL_fewest_18 : decode cL_fewest 18 = .ok (.iconst 0, 1) := by decide +kernel
theorem dL_fewest_19 : decode cL_fewest 19 = .ok (.ireturn, 1) := by decide +kernel
theorem dL_meets_0 : decode cL_meets 0 = .ok (.aload 7, 2) := by decide +kernel
theorem dL_meets_2 : decode cL_meets 2 = .ok (.iconst 0, 1) := by decide +kernel
theorem dL_meets_3 : decode cL_meets 3 = .ok (.aload_n 0, 1) := by decide +kernel
theorem dL_meets_4 : decode cL_meets 4 = .ok (.lload_n 1, 1) := by decide +kernel
theorem dL_meets_5 : decode cL_meets 5 = .ok (.lload_n 3, 1) := by decide +kernel
theorem dL_meets_6 : decode cL_meets 6 = .ok (.iload 5, 2) := by decide +kernel
theorem dL_meets_8 : decode cL_meets 8 = .ok (.iload 6, 2) := by decide +kernel
theorem dL_meets_10 : decode cL_meets 10 = .ok (.invokevirtual 94, 3) := by decide +kernel
theorem dL_meets_13 : decode cL_meets 13 = .ok (.lastore, 1) := by decide +kernel
theorem dL_meets_14 : decode cL_meets 14 = .ok (.goto 7, 3) := by decide +kernel
theorem dL_meets_17 : decode cL_meets 17 = .ok (.astore 8, 2) := by decide +kernel
theorem dL_meets_19 : decode cL_meets 19 = .ok (.iconst 1, 1) := by decide +kernel
theorem dL_meets_20 : decode cL_meets 20 = .ok (.ireturn, 1) := by decide +kernel
theorem dL_meets_21 : decode cL_meets 21 = .ok (.iconst 0, 1) := by decide +kernel
theorem dL_meets_22 : decode cL_meets 22 = .ok (.ireturn, 1) := by decide +kernel
theorem dL_overlaps_0 : decode cL_overlaps 0 = .ok (.aload_n 2, 1) := by decide +kernel
theorem dL_overlaps_1 : decode cL_overlaps 1 = .ok (.iconst 0, 1) := by decide +kernel
theorem dL_overlaps_2 : decode cL_overlaps 2 = .ok (.aload_n 0, 1) := by decide +kernel
theorem dL_overlaps_3 : decode cL_overlaps 3 = .ok (.iload_n 1, 1) := by decide +kernel
theorem dL_overlaps_4 : decode cL_overlaps 4 = .ok (.invokevirtual 98, 3) := by decide +kernel
theorem dL_overlaps_7 : decode cL_overlaps 7 = .ok (.lastore, 1) := by decide +kernel
theorem dL_overlaps_8 : decode cL_overlaps 8 = .ok (.goto 6, 3) := by decide +kernel
theorem dL_overlaps_11 : decode cL_overlaps 11 = .ok (.astore_n 3, 1) := by decide +kernel
theorem dL_overlaps_12 : decode cL_overlaps 12 = .ok (.iconst 1, 1) := by decide +kernel
theorem dL_overlaps_13 : decode cL_overlaps 13 = .ok (.ireturn, 1) := by decide +kernel
theorem dL_overlaps_14 : decode cL_overlaps 14 = .ok (.iconst 0, 1) := by decide +kernel
theorem dL_overlaps_15 : decode cL_overlaps 15 = .ok (.ireturn, 1) := by decide +kernel
theorem dL_complete_0 : decode cL_complete 0 = .ok (.aload_n 1, 1) := by decide +kernel
theorem dL_complete_1 : decode cL_complete 1 = .ok (.iconst 0, 1) := by decide +kernel
theorem dL_complete_2 : decode cL_complete 2 = .ok (.aload_n 0, 1) := by decide +kernel
theorem dL_complete_3 : decode cL_complete 3 = .ok (.invokevirtual 101, 3) := by decide +kernel
theorem dL_complete_6 : decode cL_complete 6 = .ok (.i2l, 1) := by decide +kernel
theorem dL_complete_7 : decode cL_complete 7 = .ok (.lastore, 1) := by decide +kernel
theorem dL_complete_8 : decode cL_complete 8 = .ok (.goto 6, 3) := by decide +kernel
theorem dL_complete_11 : decode cL_complete 11 = .ok (.astore_n 2, 1) := by decide +kernel
theorem dL_complete_12 : decode cL_complete 12 = .ok (.iconst 1, 1) := by decide +kernel
theorem dL_complete_13 : decode cL_complete 13 = .ok (.ireturn, 1) := by decide +kernel
theorem dL_complete_14 : decode cL_complete 14 = .ok (.iconst 0, 1) := by decide +kernel
theorem dL_complete_15 : decode cL_complete 15 = .ok (.ireturn, 1) := by decide +kernel
theorem dL_never_0 : decode cL_never 0 = .ok (.aload 6, 2) := by decide +kernel
theorem dL_never_2 : decode cL_never 2 = .ok (.iconst 0, 1) := by decide +kernel
theorem dL_never_3 : decode cL_never 3 = .ok (.aload_n 0, 1) := by decide +kernel
theorem dL_never_4 : decode cL_never 4 = .ok (.lload_n 1, 1) := by decide +kernel
theorem dL_never_5 : decode cL_never 5 = .ok (.lload_n 3, 1) := by decide +kernel
theorem dL_never_6 : decode cL_never 6 = .ok (.iload 5, 2) := by decide +kernel
theorem dL_never_8 : decode cL_never 8 = .ok (.invokevirtual 104, 3) := by decide +kernel
theorem dL_never_11 : decode cL_never 11 = .ok (.i2l, 1) := by decide +kernel
theorem dL_never_12 : decode cL_never 12 = .ok (.lastore, 1) := by decide +kernel
theorem dL_never_13 : decode cL_never 13 = .ok (.goto 11, 3) := by decide +kernel
theorem dL_never_16 : decode cL_never 16 = .ok (.astore 7, 2) := by decide +kernel
theorem dL_never_18 : decode cL_never 18 = .ok (.iconst 1, 1) := by decide +kernel
theorem dL_never_19 : decode cL_never 19 = .ok (.ireturn, 1) := by decide +kernel
theorem dL_never_20 : decode cL_never 20 = .ok (.astore 7, 2) := by decide +kernel
theorem dL_never_22 : decode cL_never 22 = .ok (.iconst 2, 1) := by decide +kernel
theorem dL_never_23 : decode cL_never 23 = .ok (.ireturn, 1) := by decide +kernel
theorem dL_never_24 : decode cL_never 24 = .ok (.iconst 0, 1) := by decide +kernel
theorem dL_never_25 : decode cL_never 25 = .ok (.ireturn, 1) := by decide +kernel
theorem dL_falls_0 : decode cL_falls 0 = .ok (.aload_n 3, 1) := by decide +kernel
theorem dL_falls_1 : decode cL_falls 1 = .ok (.iconst 0, 1) := by decide +kernel
theorem dL_falls_2 : decode cL_falls 2 = .ok (.aload_n 0, 1) := by decide +kernel
theorem dL_falls_3 : decode cL_falls 3 = .ok (.iload_n 1, 1) := by decide +kernel
theorem dL_falls_4 : decode cL_falls 4 = .ok (.iload_n 2, 1) := by decide +kernel
theorem dL_falls_5 : decode cL_falls 5 = .ok (.invokevirtual 108, 3) := by decide +kernel
theorem dL_falls_8 : decode cL_falls 8 = .ok (.i2l, 1) := by decide +kernel
theorem dL_falls_9 : decode cL_falls 9 = .ok (.lastore, 1) := by decide +kernel
theorem dL_falls_10 : decode cL_falls 10 = .ok (.goto 11, 3) := by decide +kernel
theorem dL_falls_13 : decode cL_falls 13 = .ok (.astore 4, 2) := by decide +kernel
theorem dL_falls_15 : decode cL_falls 15 = .ok (.iconst 1, 1) := by decide +kernel
theorem dL_falls_16 : decode cL_falls 16 = .ok (.ireturn, 1) := by decide +kernel
theorem dL_falls_17 : decode cL_falls 17 = .ok (.astore 4, 2) := by decide +kernel
theorem dL_falls_19 : decode cL_falls 19 = .ok (.iconst 2, 1) := by decide +kernel
theorem dL_falls_20 : decode cL_falls 20 = .ok (.ireturn, 1) := by decide +kernel
theorem dL_falls_21 : decode cL_falls 21 = .ok (.iconst 0, 1) := by decide +kernel
theorem dL_falls_22 : decode cL_falls 22 = .ok (.ireturn, 1) := by decide +kernel
theorem dL_light_0 : decode cL_light 0 = .ok (.aload_n 3, 1) := by decide +kernel
theorem dL_light_1 : decode cL_light 1 = .ok (.iconst 0, 1) := by decide +kernel
theorem dL_light_2 : decode cL_light 2 = .ok (.aload_n 0, 1) := by decide +kernel
theorem dL_light_3 : decode cL_light 3 = .ok (.lload_n 1, 1) := by decide +kernel
theorem dL_light_4 : decode cL_light 4 = .ok (.invokevirtual 111, 3) := by decide +kernel
theorem dL_light_7 : decode cL_light 7 = .ok (.i2l, 1) := by decide +kernel
theorem dL_light_8 : decode cL_light 8 = .ok (.lastore, 1) := by decide +kernel
theorem dL_light_9 : decode cL_light 9 = .ok (.goto 7, 3) := by decide +kernel
theorem dL_light_12 : decode cL_light 12 = .ok (.astore 4, 2) := by decide +kernel
theorem dL_light_14 : decode cL_light 14 = .ok (.iconst 1, 1) := by decide +kernel
theorem dL_light_15 : decode cL_light 15 = .ok (.ireturn, 1) := by decide +kernel
theorem dL_light_16 : decode cL_light 16 = .ok (.iconst 0, 1) := by decide +kernel
theorem dL_light_17 : decode cL_light 17 = .ok (.ireturn, 1) := by decide +kernel
theorem dL_loss_0 : decode cL_loss 0 = .ok (.aload_n 2, 1) := by decide +kernel
theorem dL_loss_1 : decode cL_loss 1 = .ok (.iconst 0, 1) := by decide +kernel
theorem dL_loss_2 : decode cL_loss 2 = .ok (.aload_n 0, 1) := by decide +kernel
theorem dL_loss_3 : decode cL_loss 3 = .ok (.iload_n 1, 1) := by decide +kernel
theorem dL_loss_4 : decode cL_loss 4 = .ok (.invokevirtual 115, 3) := by decide +kernel
theorem dL_loss_7 : decode cL_loss 7 = .ok (.i2l, 1) := by decide +kernel
theorem dL_loss_8 : decode cL_loss 8 = .ok (.lastore, 1) := by decide +kernel
theorem dL_loss_9 : decode cL_loss 9 = .ok (.goto 6, 3) := by decide +kernel
theorem dL_loss_12 : decode cL_loss 12 = .ok (.astore_n 3, 1) := by decide +kernel
theorem dL_loss_13 : decode cL_loss 13 = .ok (.iconst 1, 1) := by decide +kernel
theorem dL_loss_14 : decode cL_loss 14 = .ok (.ireturn, 1) := by decide +kernel
theorem dL_loss_15 : decode cL_loss 15 = .ok (.iconst 0, 1) := by decide +kernel
theorem dL_loss_16 : decode cL_loss 16 = .ok (.ireturn, 1) := by decide +kernel
theorem dL_reckons_0 : decode cL_reckons 0 = .ok (.aload_n 3, 1) := by decide +kernel
theorem dL_reckons_1 : decode cL_reckons 1 = .ok (.iconst 0, 1) := by decide +kernel
theorem dL_reckons_2 : decode cL_reckons 2 = .ok (.aload_n 0, 1) := by decide +kernel
theorem dL_reckons_3 : decode cL_reckons 3 = .ok (.iload_n 1, 1) := by decide +kernel
theorem dL_reckons_4 : decode cL_reckons 4 = .ok (.iload_n 2, 1) := by decide +kernel
theorem dL_reckons_5 : decode cL_reckons 5 = .ok (.invokevirtual 118, 3) := by decide +kernel
theorem dL_reckons_8 : decode cL_reckons 8 = .ok (.lastore, 1) := by decide +kernel
theorem dL_reckons_9 : decode cL_reckons 9 = .ok (.goto 7, 3) := by decide +kernel
theorem dL_reckons_12 : decode cL_reckons 12 = .ok (.astore 4, 2) := by decide +kernel
theorem dL_reckons_14 : decode cL_reckons 14 = .ok (.iconst 1, 1) := by decide +kernel
theorem dL_reckons_15 : decode cL_reckons 15 = .ok (.ireturn, 1) := by decide +kernel
theorem dL_reckons_16 : decode cL_reckons 16 = .ok (.iconst 0, 1) := by decide +kernel
theorem dL_reckons_17 : decode cL_reckons 17 = .ok (.ireturn, 1) := by decide +kernel
theorem dL_explained_0 : decode cL_explained 0 = .ok (.aload_n 2, 1) := by decide +kernel
theorem dL_explained_1 : decode cL_explained 1 = .ok (.iconst 0, 1) := by decide +kernel
theorem dL_explained_2 : decode cL_explained 2 = .ok (.aload_n 0, 1) := by decide +kernel
theorem dL_explained_3 : decode cL_explained 3 = .ok (.iload_n 1, 1) := by decide +kernel
theorem dL_explained_4 : decode cL_explained 4 = .ok (.invokevirtual 122, 3) := by decide +kernel
theorem dL_explained_7 : decode cL_explained 7 = .ok (.i2l, 1) := by decide +kernel
theorem dL_explained_8 : decode cL_explained 8 = .ok (.lastore, 1) := by decide +kernel
theorem dL_explained_9 : decode cL_explained 9 = .ok (.goto 6, 3) := by decide +kernel
theorem dL_explained_12 : decode cL_explained 12 = .ok (.astore_n 3, 1) := by decide +kernel
theorem dL_explained_13 : decode cL_explained 13 = .ok (.iconst 1, 1) := by decide +kernel
theorem dL_explained_14 : decode cL_explained 14 = .ok (.ireturn, 1) := by decide +kernel
theorem dL_explained_15 : decode cL_explained 15 = .ok (.iconst 0, 1) := by decide +kernel
theorem dL_explained_16 : decode cL_explained 16 = .ok (.ireturn, 1) := by decide +kernel
theorem dL_guessed_0 : decode cL_guessed 0 = .ok (.aload_n 2, 1) := by decide +kernel
theorem dL_guessed_1 : decode cL_guessed 1 = .ok (.iconst 0, 1) := by decide +kernel
theorem dL_guessed_2 : decode cL_guessed 2 = .ok (.aload_n 0, 1) := by decide +kernel
theorem dL_guessed_3 : decode cL_guessed 3 = .ok (.iload_n 1, 1) := by decide +kernel
theorem dL_guessed_4 : decode cL_guessed 4 = .ok (.invokevirtual 125, 3) := by decide +kernel
theorem dL_guessed_7 : decode cL_guessed 7 = .ok (.lastore, 1) := by decide +kernel
theorem dL_guessed_8 : decode cL_guessed 8 = .ok (.goto 6, 3) := by decide +kernel
theorem dL_guessed_11 : decode cL_guessed 11 = .ok (.astore_n 3, 1) := by decide +kernel
theorem dL_guessed_12 : decode cL_guessed 12 = .ok (.iconst 1, 1) := by decide +kernel
theorem dL_guessed_13 : decode cL_guessed 13 = .ok (.ireturn, 1) := by decide +kernel
theorem dL_guessed_14 : decode cL_guessed 14 = .ok (.iconst 0, 1) := by decide +kernel
theorem dL_guessed_15 : decode cL_guessed 15 = .ok (.ireturn, 1) := by decide +kernel
theorem dL_drovers_0 : decode cL_drovers 0 = .ok (.aload 4, 2) := by decide +kernel
theorem dL_drovers_2 : decode cL_drovers 2 = .ok (.iconst 0, 1) := by decide +kernel
theorem dL_drovers_3 : decode cL_drovers 3 = .ok (.aload_n 0, 1) := by decide +kernel
theorem dL_drovers_4 : decode cL_drovers 4 = .ok (.lload_n 1, 1) := by decide +kernel
theorem dL_drovers_5 : decode cL_drovers 5 = .ok (.iload_n 3, 1) := by decide +kernel
theorem dL_drovers_6 : decode cL_drovers 6 = .ok (.invokevirtual 128, 3) := by decide +kernel
theorem dL_drovers_9 : decode cL_drovers 9 = .ok (.i2l, 1) := by decide +kernel
theorem dL_drovers_10 : decode cL_drovers 10 = .ok (.lastore, 1) := by decide +kernel
theorem dL_drovers_11 : decode cL_drovers 11 = .ok (.goto 7, 3) := by decide +kernel
theorem dL_drovers_14 : decode cL_drovers 14 = .ok (.astore 5, 2) := by decide +kernel
theorem dL_drovers_16 : decode cL_drovers 16 = .ok (.iconst 1, 1) := by decide +kernel
theorem dL_drovers_17 : decode cL_drovers 17 = .ok (.ireturn, 1) := by decide +kernel
theorem dL_drovers_18 : decode cL_drovers 18 = .ok (.iconst 0, 1) := by decide +kernel
theorem dL_drovers_19 : decode cL_drovers 19 = .ok (.ireturn, 1) := by decide +kernel
theorem dL_best_0 : decode cL_best 0 = .ok (.aload 4, 2) := by decide +kernel
theorem dL_best_2 : decode cL_best 2 = .ok (.iconst 0, 1) := by decide +kernel
theorem dL_best_3 : decode cL_best 3 = .ok (.aload_n 0, 1) := by decide +kernel
theorem dL_best_4 : decode cL_best 4 = .ok (.lload_n 1, 1) := by decide +kernel
theorem dL_best_5 : decode cL_best 5 = .ok (.iload_n 3, 1) := by decide +kernel
theorem dL_best_6 : decode cL_best 6 = .ok (.invokevirtual 131, 3) := by decide +kernel
theorem dL_best_9 : decode cL_best 9 = .ok (.i2l, 1) := by decide +kernel
theorem dL_best_10 : decode cL_best 10 = .ok (.lastore, 1) := by decide +kernel
theorem dL_best_11 : decode cL_best 11 = .ok (.goto 7, 3) := by decide +kernel
theorem dL_best_14 : decode cL_best 14 = .ok (.astore 5, 2) := by decide +kernel
theorem dL_best_16 : decode cL_best 16 = .ok (.iconst 1, 1) := by decide +kernel
theorem dL_best_17 : decode cL_best 17 = .ok (.ireturn, 1) := by decide +kernel
theorem dL_best_18 : decode cL_best 18 = .ok (.iconst 0, 1) := by decide +kernel
theorem dL_best_19 : decode cL_best 19 = .ok (.ireturn, 1) := by decide +kernel
theorem dL_sorts_0 : decode cL_sorts 0 = .ok (.aload_n 2, 1) := by decide +kernel
theorem dL_sorts_1 : decode cL_sorts 1 = .ok (.iconst 0, 1) := by decide +kernel
theorem dL_sorts_2 : decode cL_sorts 2 = .ok (.aload_n 0, 1) := by decide +kernel
theorem dL_sorts_3 : decode cL_sorts 3 = .ok (.iload_n 1, 1) := by decide +kernel
theorem dL_sorts_4 : decode cL_sorts 4 = .ok (.invokevirtual 134, 3) := by decide +kernel
theorem dL_sorts_7 : decode cL_sorts 7 = .ok (.i2l, 1) := by decide +kernel
theorem dL_sorts_8 : decode cL_sorts 8 = .ok (.lastore, 1) := by decide +kernel
theorem dL_sorts_9 : decode cL_sorts 9 = .ok (.goto 6, 3) := by decide +kernel
theorem dL_sorts_12 : decode cL_sorts 12 = .ok (.astore_n 3, 1) := by decide +kernel
theorem dL_sorts_13 : decode cL_sorts 13 = .ok (.iconst 1, 1) := by decide +kernel
theorem dL_sorts_14 : decode cL_sorts 14 = .ok (.ireturn, 1) := by decide +kernel
theorem dL_sorts_15 : decode cL_sorts 15 = .ok (.iconst 0, 1) := by decide +kernel
theorem dL_sorts_16 : decode cL_sorts 16 = .ok (.ireturn, 1) := by decide +kernel
theorem dL_law__0 : decode cL_law_ 0 = .ok (.new 8, 3) := by decide +kernel
theorem dL_law__3 : decode cL_law_ 3 = .ok (.dup, 1) := by decide +kernel
theorem dL_law__4 : decode cL_law_ 4 = .ok (.invokespecial 137, 3) := by decide +kernel
theorem dL_law__7 : decode cL_law_ 7 = .ok (.astore_n 1, 1) := by decide +kernel
theorem dL_law__8 : decode cL_law_ 8 = .ok (.new 138, 3) := by decide +kernel
theorem dL_law__11 : decode cL_law_ 11 = .ok (.dup, 1) := by decide +kernel
theorem dL_law__12 : decode cL_law_ 12 = .ok (.invokespecial 140, 3) := by decide +kernel
theorem dL_law__15 : decode cL_law_ 15 = .ok (.astore_n 2, 1) := by decide +kernel
theorem dL_law__16 : decode cL_law_ 16 = .ok (.iconst 1, 1) := by decide +kernel
theorem dL_law__17 : decode cL_law_ 17 = .ok (.newarray .long, 2) := by decide +kernel
theorem dL_law__19 : decode cL_law_ 19 = .ok (.astore_n 3, 1) := by decide +kernel
theorem dL_law__20 : decode cL_law_ 20 = .ok (.iconst 0, 1) := by decide +kernel
theorem dL_law__21 : decode cL_law_ 21 = .ok (.istore 4, 2) := by decide +kernel
theorem dL_law__23 : decode cL_law_ 23 = .ok (.iload 4, 2) := by decide +kernel
theorem dL_law__25 : decode cL_law_ 25 = .ok (.aload_n 0, 1) := by decide +kernel
theorem dL_law__26 : decode cL_law_ 26 = .ok (.arraylength, 1) := by decide +kernel
theorem dL_law__27 : decode cL_law_ 27 = .ok (.bipush 7, 2) := by decide +kernel
theorem dL_law__29 : decode cL_law_ 29 = .ok (.isub, 1) := by decide +kernel
theorem dL_law__30 : decode cL_law_ 30 = .ok (.if_icmp .gt 3311, 3) := by decide +kernel
theorem dL_law__33 : decode cL_law_ 33 = .ok (.aload_n 0, 1) := by decide +kernel
theorem dL_law__34 : decode cL_law_ 34 = .ok (.iload 4, 2) := by decide +kernel
theorem dL_law__36 : decode cL_law_ 36 = .ok (.iaload, 1) := by decide +kernel
theorem dL_law__37 : decode cL_law_ 37 = .ok (.bipush 63, 2) := by decide +kernel
theorem dL_law__39 : decode cL_law_ 39 = .ok (.iand, 1) := by decide +kernel
theorem dL_law__40 : decode cL_law_ 40 = .ok (.tableswitch 3295 0 43 #[192, 265, 290, 334, 378, 391, 474, 529, 612, 712, 768, 848, 967, 1046, 1114, 1213, 1345, 1401, 1469, 1596, 1712, 1851, 1962, 2094, 2267, 2322, 2366, 2510, 2578, 2666, 2722, 2736, 2803, 2828, 2884, 2897, 2952, 3052, 3152, 3208, 3233, 3246, 3257, 3270], 192) := by decide +kernel
theorem dL_law__232 : decode cL_law_ 232 = .ok (.aload_n 1, 1) := by decide +kernel
theorem dL_law__233 : decode cL_law_ 233 = .ok (.aload_n 0, 1) := by decide +kernel
theorem dL_law__234 : decode cL_law_ 234 = .ok (.iload 4, 2) := by decide +kernel
theorem dL_law__236 : decode cL_law_ 236 = .ok (.iconst 1, 1) := by decide +kernel
theorem dL_law__237 : decode cL_law_ 237 = .ok (.iadd, 1) := by decide +kernel
theorem dL_law__238 : decode cL_law_ 238 = .ok (.iaload, 1) := by decide +kernel
theorem dL_law__239 : decode cL_law_ 239 = .ok (.aload_n 0, 1) := by decide +kernel
theorem dL_law__240 : decode cL_law_ 240 = .ok (.iload 4, 2) := by decide +kernel
theorem dL_law__242 : decode cL_law_ 242 = .ok (.iconst 2, 1) := by decide +kernel
theorem dL_law__243 : decode cL_law_ 243 = .ok (.iadd, 1) := by decide +kernel
theorem dL_law__244 : decode cL_law_ 244 = .ok (.iaload, 1) := by decide +kernel
theorem dL_law__245 : decode cL_law_ 245 = .ok (.aload_n 0, 1) := by decide +kernel
theorem dL_law__246 : decode cL_law_ 246 = .ok (.iload 4, 2) := by decide +kernel
theorem dL_law__248 : decode cL_law_ 248 = .ok (.iconst 3, 1) := by decide +kernel
theorem dL_law__249 : decode cL_law_ 249 = .ok (.iadd, 1) := by decide +kernel
theorem dL_law__250 : decode cL_law_ 250 = .ok (.iaload, 1) := by decide +kernel
theorem dL_law__251 : decode cL_law_ 251 = .ok (.aload_n 0, 1) := by decide +kernel
theorem dL_law__252 : decode cL_law_ 252 = .ok (.iload 4, 2) := by decide +kernel
theorem dL_law__254 : decode cL_law_ 254 = .ok (.iconst 4, 1) := by decide +kernel
theorem dL_law__255 : decode cL_law_ 255 = .ok (.iadd, 1) := by decide +kernel
theorem dL_law__256 : decode cL_law_ 256 = .ok (.iaload, 1) := by decide +kernel
theorem dL_law__257 : decode cL_law_ 257 = .ok (.aload_n 0, 1) := by decide +kernel
theorem dL_law__258 : decode cL_law_ 258 = .ok (.iload 4, 2) := by decide +kernel
theorem dL_law__260 : decode cL_law_ 260 = .ok (.iconst 5, 1) := by decide +kernel
theorem dL_law__261 : decode cL_law_ 261 = .ok (.iadd, 1) := by decide +kernel
theorem dL_law__262 : decode cL_law_ 262 = .ok (.iaload, 1) := by decide +kernel
theorem dL_law__263 : decode cL_law_ 263 = .ok (.invokevirtual 141, 3) := by decide +kernel
theorem dL_law__266 : decode cL_law_ 266 = .ok (.aload_n 2, 1) := by decide +kernel
theorem dL_law__267 : decode cL_law_ 267 = .ok (.aload_n 0, 1) := by decide +kernel
theorem dL_law__268 : decode cL_law_ 268 = .ok (.iload 4, 2) := by decide +kernel
theorem dL_law__270 : decode cL_law_ 270 = .ok (.iconst 1, 1) := by decide +kernel
theorem dL_law__271 : decode cL_law_ 271 = .ok (.iadd, 1) := by decide +kernel
theorem dL_law__272 : decode cL_law_ 272 = .ok (.iaload, 1) := by decide +kernel
theorem dL_law__273 : decode cL_law_ 273 = .ok (.aload_n 0, 1) := by decide +kernel
theorem dL_law__274 : decode cL_law_ 274 = .ok (.iload 4, 2) := by decide +kernel
theorem dL_law__276 : decode cL_law_ 276 = .ok (.iconst 2, 1) := by decide +kernel
theorem dL_law__277 : decode cL_law_ 277 = .ok (.iadd, 1) := by decide +kernel
theorem dL_law__278 : decode cL_law_ 278 = .ok (.iaload, 1) := by decide +kernel
theorem dL_law__279 : decode cL_law_ 279 = .ok (.aload_n 0, 1) := by decide +kernel
theorem dL_law__280 : decode cL_law_ 280 = .ok (.iload 4, 2) := by decide +kernel
theorem dL_law__282 : decode cL_law_ 282 = .ok (.iconst 3, 1) := by decide +kernel
theorem dL_law__283 : decode cL_law_ 283 = .ok (.iadd, 1) := by decide +kernel
theorem dL_law__284 : decode cL_law_ 284 = .ok (.iaload, 1) := by decide +kernel
theorem dL_law__285 : decode cL_law_ 285 = .ok (.aload_n 0, 1) := by decide +kernel
theorem dL_law__286 : decode cL_law_ 286 = .ok (.iload 4, 2) := by decide +kernel
theorem dL_law__288 : decode cL_law_ 288 = .ok (.iconst 4, 1) := by decide +kernel
theorem dL_law__289 : decode cL_law_ 289 = .ok (.iadd, 1) := by decide +kernel
theorem dL_law__290 : decode cL_law_ 290 = .ok (.iaload, 1) := by decide +kernel
theorem dL_law__291 : decode cL_law_ 291 = .ok (.aload_n 0, 1) := by decide +kernel
theorem dL_law__292 : decode cL_law_ 292 = .ok (.iload 4, 2) := by decide +kernel
theorem dL_law__294 : decode cL_law_ 294 = .ok (.iconst 5, 1) := by decide +kernel
theorem dL_law__295 : decode cL_law_ 295 = .ok (.iadd, 1) := by decide +kernel
theorem dL_law__296 : decode cL_law_ 296 = .ok (.iaload, 1) := by decide +kernel
theorem dL_law__297 : decode cL_law_ 297 = .ok (.invokevirtual 145, 3) := by decide +kernel
theorem dL_law__300 : decode cL_law_ 300 = .ok (.if_icmp .eq 3035, 3) := by decide +kernel
theorem dL_law__303 : decode cL_law_ 303 = .ok (.iconst 0, 1) := by decide +kernel
theorem dL_law__304 : decode cL_law_ 304 = .ok (.ireturn, 1) := by decide +kernel
theorem dL_law__305 : decode cL_law_ 305 = .ok (.aload_n 1, 1) := by decide +kernel
theorem dL_law__306 : decode cL_law_ 306 = .ok (.aload_n 0, 1) := by decide +kernel
theorem dL_law__307 : decode cL_law_ 307 = .ok (.iload 4, 2) := by decide +kernel
theorem dL_law__309 : decode cL_law_ 309 = .ok (.iconst 1, 1) := by decide +kernel
theorem dL_law__310 : decode cL_law_ 310 = .ok (.iadd, 1) := by decide +kernel
theorem dL_law__311 : decode cL_law_ 311 = .ok (.iaload, 1) := by decide +kernel
theorem dL_law__312 : decode cL_law_ 312 = .ok (.invokevirtual 146, 3) := by decide +kernel
theorem dL_law__315 : decode cL_law_ 315 = .ok (.aload_n 2, 1) := by decide +kernel
theorem dL_law__316 : decode cL_law_ 316 = .ok (.aload_n 0, 1) := by decide +kernel
theorem dL_law__317 : decode cL_law_ 317 = .ok (.iload 4, 2) := by decide +kernel
theorem dL_law__319 : decode cL_law_ 319 = .ok (.iconst 1, 1) := by decide +kernel
theorem dL_law__320 : decode cL_law_ 320 = .ok (.iadd, 1) := by decide +kernel
theorem dL_law__321 : decode cL_law_ 321 = .ok (.iaload, 1) := by decide +kernel
theorem dL_law__322 : decode cL_law_ 322 = .ok (.invokevirtual 150, 3) := by decide +kernel
theorem dL_law__325 : decode cL_law_ 325 = .ok (.if_icmp .eq 3010, 3) := by decide +kernel
theorem dL_law__328 : decode cL_law_ 328 = .ok (.iconst 0, 1) := by decide +kernel
theorem dL_law__329 : decode cL_law_ 329 = .ok (.ireturn, 1) := by decide +kernel
theorem dL_law__330 : decode cL_law_ 330 = .ok (.aload_n 1, 1) := by decide +kernel
theorem dL_law__331 : decode cL_law_ 331 = .ok (.aload_n 3, 1) := by decide +kernel
theorem dL_law__332 : decode cL_law_ 332 = .ok (.invokestatic 151, 3) := by decide +kernel
theorem dL_law__335 : decode cL_law_ 335 = .ok (.istore 5, 2) := by decide +kernel
theorem dL_law__337 : decode cL_law_ 337 = .ok (.aload_n 2, 1) := by decide +kernel
theorem dL_law__338 : decode cL_law_ 338 = .ok (.invokevirtual 156, 3) := by decide +kernel
theorem dL_law__341 : decode cL_law_ 341 = .ok (.istore 6, 2) := by decide +kernel
theorem dL_law__343 : decode cL_law_ 343 = .ok (.aload_n 2, 1) := by decide +kernel
theorem dL_law__344 : decode cL_law_ 344 = .ok (.invokevirtual 157, 3) := by decide +kernel
theorem dL_law__347 : decode cL_law_ 347 = .ok (.iload 5, 2) := by decide +kernel
theorem dL_law__349 : decode cL_law_ 349 = .ok (.if_icmp .eq 5, 3) := by decide +kernel
theorem dL_law__352 : decode cL_law_ 352 = .ok (.iconst 0, 1) := by decide +kernel
theorem dL_law__353 : decode cL_law_ 353 = .ok (.ireturn, 1) := by decide +kernel
theorem dL_law__354 : decode cL_law_ 354 = .ok (.iload 5, 2) := by decide +kernel
theorem dL_law__356 : decode cL_law_ 356 = .ok (.ifCond .ne 15, 3) := by decide +kernel
theorem dL_law__359 : decode cL_law_ 359 = .ok (.aload_n 3, 1) := by decide +kernel
theorem dL_law__360 : decode cL_law_ 360 = .ok (.iconst 0, 1) := by decide +kernel
theorem dL_law__361 : decode cL_law_ 361 = .ok (.laload, 1) := by decide +kernel
theorem dL_law__362 : decode cL_law_ 362 = .ok (.iload 6, 2) := by decide +kernel
theorem dL_law__364 : decode cL_law_ 364 = .ok (.i2l, 1) := by decide +kernel
theorem dL_law__365 : decode cL_law_ 365 = .ok (.lcmp, 1) := by decide +kernel
theorem dL_law__366 : decode cL_law_ 366 = .ok (.ifCond .eq 5, 3) := by decide +kernel
theorem dL_law__369 : decode cL_law_ 369 = .ok (.iconst 0, 1) := by decide +kernel
theorem dL_law__370 : decode cL_law_ 370 = .ok (.ireturn, 1) := by decide +kernel
theorem dL_law__371 : decode cL_law_ 371 = .ok (.goto 2964, 3) := by decide +kernel
theorem dL_law__374 : decode cL_law_ 374 = .ok (.aload_n 1, 1) := by decide +kernel
theorem dL_law__375 : decode cL_law_ 375 = .ok (.aload_n 3, 1) := by decide +kernel
theorem dL_law__376 : decode cL_law_ 376 = .ok (.invokestatic 160, 3) := by decide +kernel
theorem dL_law__379 : decode cL_law_ 379 = .ok (.istore 5, 2) := by decide +kernel
theorem dL_law__381 : decode cL_law_ 381 = .ok (.aload_n 2, 1) := by decide +kernel
theorem dL_law__382 : decode cL_law_ 382 = .ok (.invokevirtual 162, 3) := by decide +kernel
theorem dL_law__385 : decode cL_law_ 385 = .ok (.istore 6, 2) := by decide +kernel
theorem dL_law__387 : decode cL_law_ 387 = .ok (.aload_n 2, 1) := by decide +kernel
theorem dL_law__388 : decode cL_law_ 388 = .ok (.invokevirtual 157, 3) := by decide +kernel
theorem dL_law__391 : decode cL_law_ 391 = .ok (.iload 5, 2) := by decide +kernel
theorem dL_law__393 : decode cL_law_ 393 = .ok (.if_icmp .eq 5, 3) := by decide +kernel
theorem dL_law__396 : decode cL_law_ 396 = .ok (.iconst 0, 1) := by decide +kernel
theorem dL_law__397 : decode cL_law_ 397 = .ok (.ireturn, 1) := by decide +kernel
theorem dL_law__398 : decode cL_law_ 398 = .ok (.iload 5, 2) := by decide +kernel
theorem dL_law__400 : decode cL_law_ 400 = .ok (.ifCond .ne 15, 3) := by decide +kernel
theorem dL_law__403 : decode cL_law_ 403 = .ok (.aload_n 3, 1) := by decide +kernel
theorem dL_law__404 : decode cL_law_ 404 = .ok (.iconst 0, 1) := by decide +kernel
theorem dL_law__405 : decode cL_law_ 405 = .ok (.laload, 1) := by decide +kernel
theorem dL_law__406 : decode cL_law_ 406 = .ok (.iload 6, 2) := by decide +kernel
theorem dL_law__408 : decode cL_law_ 408 = .ok (.i2l, 1) := by decide +kernel
theorem dL_law__409 : decode cL_law_ 409 = .ok (.lcmp, 1) := by decide +kernel
theorem dL_law__410 : decode cL_law_ 410 = .ok (.ifCond .eq 5, 3) := by decide +kernel
theorem dL_law__413 : decode cL_law_ 413 = .ok (.iconst 0, 1) := by decide +kernel
theorem dL_law__414 : decode cL_law_ 414 = .ok (.ireturn, 1) := by decide +kernel
theorem dL_law__415 : decode cL_law_ 415 = .ok (.goto 2920, 3) := by decide +kernel
theorem dL_law__418 : decode cL_law_ 418 = .ok (.aload_n 1, 1) := by decide +kernel
theorem dL_law__419 : decode cL_law_ 419 = .ok (.invokevirtual 163, 3) := by decide +kernel
theorem dL_law__422 : decode cL_law_ 422 = .ok (.aload_n 2, 1) := by decide +kernel
theorem dL_law__423 : decode cL_law_ 423 = .ok (.invokevirtual 166, 3) := by decide +kernel
theorem dL_law__426 : decode cL_law_ 426 = .ok (.if_icmp .eq 2909, 3) := by decide +kernel
theorem dL_law__429 : decode cL_law_ 429 = .ok (.iconst 0, 1) := by decide +kernel
theorem dL_law__430 : decode cL_law_ 430 = .ok (.ireturn, 1) := by decide +kernel
theorem dL_law__431 : decode cL_law_ 431 = .ok (.aload_n 1, 1) := by decide +kernel
theorem dL_law__432 : decode cL_law_ 432 = .ok (.aload_n 0, 1) := by decide +kernel
theorem dL_law__433 : decode cL_law_ 433 = .ok (.iload 4, 2) := by decide +kernel
theorem dL_law__435 : decode cL_law_ 435 = .ok (.iconst 1, 1) := by decide +kernel
theorem dL_law__436 : decode cL_law_ 436 = .ok (.iadd, 1) := by decide +kernel
theorem dL_law__437 : decode cL_law_ 437 = .ok (.iaload, 1) := by decide +kernel
theorem dL_law__438 : decode cL_law_ 438 = .ok (.aload_n 0, 1) := by decide +kernel
theorem dL_law__439 : decode cL_law_ 439 = .ok (.iload 4, 2) := by decide +kernel
theorem dL_law__441 : decode cL_law_ 441 = .ok (.iconst 2, 1) := by decide +kernel
theorem dL_law__442 : decode cL_law_ 442 = .ok (.iadd, 1) := by decide +kernel
theorem dL_law__443 : decode cL_law_ 443 = .ok (.iaload, 1) := by decide +kernel
theorem dL_law__444 : decode cL_law_ 444 = .ok (.ifCond .eq 7, 3) := by decide +kernel
theorem dL_law__447 : decode cL_law_ 447 = .ok (.iconst 1, 1) := by decide +kernel
theorem dL_law__448 : decode cL_law_ 448 = .ok (.goto 4, 3) := by decide +kernel
theorem dL_law__451 : decode cL_law_ 451 = .ok (.iconst 0, 1) := by decide +kernel
theorem dL_law__452 : decode cL_law_ 452 = .ok (.aload_n 3, 1) := by decide +kernel
theorem dL_law__453 : decode cL_law_ 453 = .ok (.invokestatic 167, 3) := by decide +kernel
theorem dL_law__456 : decode cL_law_ 456 = .ok (.istore 5, 2) := by decide +kernel
theorem dL_law__458 : decode cL_law_ 458 = .ok (.aload_n 2, 1) := by decide +kernel
theorem dL_law__459 : decode cL_law_ 459 = .ok (.aload_n 0, 1) := by decide +kernel
theorem dL_law__460 : decode cL_law_ 460 = .ok (.iload 4, 2) := by decide +kernel
theorem dL_law__462 : decode cL_law_ 462 = .ok (.iconst 1, 1) := by decide +kernel
theorem dL_law__463 : decode cL_law_ 463 = .ok (.iadd, 1) := by decide +kernel
theorem dL_law__464 : decode cL_law_ 464 = .ok (.iaload, 1) := by decide +kernel
theorem dL_law__465 : decode cL_law_ 465 = .ok (.aload_n 0, 1) := by decide +kernel
theorem dL_law__466 : decode cL_law_ 466 = .ok (.iload 4, 2) := by decide +kernel
theorem dL_law__468 : decode cL_law_ 468 = .ok (.iconst 2, 1) := by decide +kernel
theorem dL_law__469 : decode cL_law_ 469 = .ok (.iadd, 1) := by decide +kernel
theorem dL_law__470 : decode cL_law_ 470 = .ok (.iaload, 1) := by decide +kernel
theorem dL_law__471 : decode cL_law_ 471 = .ok (.ifCond .eq 7, 3) := by decide +kernel
theorem dL_law__474 : decode cL_law_ 474 = .ok (.iconst 1, 1) := by decide +kernel
theorem dL_law__475 : decode cL_law_ 475 = .ok (.goto 4, 3) := by decide +kernel
theorem dL_law__478 : decode cL_law_ 478 = .ok (.iconst 0, 1) := by decide +kernel
theorem dL_law__479 : decode cL_law_ 479 = .ok (.invokevirtual 170, 3) := by decide +kernel
theorem dL_law__482 : decode cL_law_ 482 = .ok (.lstore 6, 2) := by decide +kernel
theorem dL_law__484 : decode cL_law_ 484 = .ok (.aload_n 2, 1) := by decide +kernel
theorem dL_law__485 : decode cL_law_ 485 = .ok (.invokevirtual 157, 3) := by decide +kernel
theorem dL_law__488 : decode cL_law_ 488 = .ok (.iload 5, 2) := by decide +kernel
theorem dL_law__490 : decode cL_law_ 490 = .ok (.if_icmp .eq 5, 3) := by decide +kernel
theorem dL_law__493 : decode cL_law_ 493 = .ok (.iconst 0, 1) := by decide +kernel
theorem dL_law__494 : decode cL_law_ 494 = .ok (.ireturn, 1) := by decide +kernel
theorem dL_law__495 : decode cL_law_ 495 = .ok (.iload 5, 2) := by decide +kernel
theorem dL_law__497 : decode cL_law_ 497 = .ok (.ifCond .ne 14, 3) := by decide +kernel
theorem dL_law__500 : decode cL_law_ 500 = .ok (.aload_n 3, 1) := by decide +kernel
theorem dL_law__501 : decode cL_law_ 501 = .ok (.iconst 0, 1) := by decide +kernel
theorem dL_law__502 : decode cL_law_ 502 = .ok (.laload, 1) := by decide +kernel
theorem dL_law__503 : decode cL_law_ 503 = .ok (.lload 6, 2) := by decide +kernel
theorem dL_law__505 : decode cL_law_ 505 = .ok (.lcmp, 1) := by decide +kernel
theorem dL_law__506 : decode cL_law_ 506 = .ok (.ifCond .eq 5, 3) := by decide +kernel
theorem dL_law__509 : decode cL_law_ 509 = .ok (.iconst 0, 1) := by decide +kernel
theorem dL_law__510 : decode cL_law_ 510 = .ok (.ireturn, 1) := by decide +kernel
theorem dL_law__511 : decode cL_law_ 511 = .ok (.goto 2824, 3) := by decide +kernel
theorem dL_law__514 : decode cL_law_ 514 = .ok (.aload_n 1, 1) := by decide +kernel
theorem dL_law__515 : decode cL_law_ 515 = .ok (.aload_n 0, 1) := by decide +kernel
theorem dL_law__516 : decode cL_law_ 516 = .ok (.iload 4, 2) := by decide +kernel
theorem dL_law__518 : decode cL_law_ 518 = .ok (.iconst 1, 1) := by decide +kernel
theorem dL_law__519 : decode cL_law_ 519 = .ok (.iadd, 1) := by decide +kernel
theorem dL_law__520 : decode cL_law_ 520 = .ok (.iaload, 1) := by decide +kernel
theorem dL_law__521 : decode cL_law_ 521 = .ok (.aload_n 3, 1) := by decide +kernel
theorem dL_law__522 : decode cL_law_ 522 = .ok (.invokestatic 171, 3) := by decide +kernel
theorem dL_law__525 : decode cL_law_ 525 = .ok (.istore 5, 2) := by decide +kernel
theorem dL_law__527 : decode cL_law_ 527 = .ok (.aload_n 2, 1) := by decide +kernel
theorem dL_law__528 : decode cL_law_ 528 = .ok (.aload_n 0, 1) := by decide +kernel
theorem dL_law__529 : decode cL_law_ 529 = .ok (.iload 4, 2) := by decide +kernel
theorem dL_law__531 : decode cL_law_ 531 = .ok (.iconst 1, 1) := by decide +kernel
theorem dL_law__532 : decode cL_law_ 532 = .ok (.iadd, 1) := by decide +kernel
theorem dL_law__533 : decode cL_law_ 533 = .ok (.iaload, 1) := by decide +kernel
theorem dL_law__534 : decode cL_law_ 534 = .ok (.invokevirtual 174, 3) := by decide +kernel
theorem dL_law__537 : decode cL_law_ 537 = .ok (.lstore 6, 2) := by decide +kernel
theorem dL_law__539 : decode cL_law_ 539 = .ok (.aload_n 2, 1) := by decide +kernel
theorem dL_law__540 : decode cL_law_ 540 = .ok (.invokevirtual 157, 3) := by decide +kernel
theorem dL_law__543 : decode cL_law_ 543 = .ok (.iload 5, 2) := by decide +kernel
theorem dL_law__545 : decode cL_law_ 545 = .ok (.if_icmp .eq 5, 3) := by decide +kernel
theorem dL_law__548 : decode cL_law_ 548 = .ok (.iconst 0, 1) := by decide +kernel
theorem dL_law__549 : decode cL_law_ 549 = .ok (.ireturn, 1) := by decide +kernel
theorem dL_law__550 : decode cL_law_ 550 = .ok (.iload 5, 2) := by decide +kernel
theorem dL_law__552 : decode cL_law_ 552 = .ok (.ifCond .ne 14, 3) := by decide +kernel
theorem dL_law__555 : decode cL_law_ 555 = .ok (.aload_n 3, 1) := by decide +kernel
theorem dL_law__556 : decode cL_law_ 556 = .ok (.iconst 0, 1) := by decide +kernel
theorem dL_law__557 : decode cL_law_ 557 = .ok (.laload, 1) := by decide +kernel
theorem dL_law__558 : decode cL_law_ 558 = .ok (.lload 6, 2) := by decide +kernel
theorem dL_law__560 : decode cL_law_ 560 = .ok (.lcmp, 1) := by decide +kernel
theorem dL_law__561 : decode cL_law_ 561 = .ok (.ifCond .eq 5, 3) := by decide +kernel
theorem dL_law__564 : decode cL_law_ 564 = .ok (.iconst 0, 1) := by decide +kernel
theorem dL_law__565 : decode cL_law_ 565 = .ok (.ireturn, 1) := by decide +kernel
theorem dL_law__566 : decode cL_law_ 566 = .ok (.goto 2769, 3) := by decide +kernel
theorem dL_law__569 : decode cL_law_ 569 = .ok (.aload_n 1, 1) := by decide +kernel
theorem dL_law__570 : decode cL_law_ 570 = .ok (.aload_n 0, 1) := by decide +kernel
theorem dL_law__571 : decode cL_law_ 571 = .ok (.iload 4, 2) := by decide +kernel
theorem dL_law__573 : decode cL_law_ 573 = .ok (.iconst 1, 1) := by decide +kernel
theorem dL_law__574 : decode cL_law_ 574 = .ok (.iadd, 1) := by decide +kernel
theorem dL_law__575 : decode cL_law_ 575 = .ok (.iaload, 1) := by decide +kernel
theorem dL_law__576 : decode cL_law_ 576 = .ok (.aload_n 0, 1) := by decide +kernel
theorem dL_law__577 : decode cL_law_ 577 = .ok (.iload 4, 2) := by decide +kernel
theorem dL_law__579 : decode cL_law_ 579 = .ok (.iconst 2, 1) := by decide +kernel
theorem dL_law__580 : decode cL_law_ 580 = .ok (.iadd, 1) := by decide +kernel
theorem dL_law__581 : decode cL_law_ 581 = .ok (.iaload, 1) := by decide +kernel
theorem dL_law__582 : decode cL_law_ 582 = .ok (.ifCond .eq 7, 3) := by decide +kernel
theorem dL_law__585 : decode cL_law_ 585 = .ok (.iconst 1, 1) := by decide +kernel
theorem dL_law__586 : decode cL_law_ 586 = .ok (.goto 4, 3) := by decide +kernel
theorem dL_law__589 : decode cL_law_ 589 = .ok (.iconst 0, 1) := by decide +kernel
theorem dL_law__590 : decode cL_law_ 590 = .ok (.aload_n 3, 1) := by decide +kernel
theorem dL_law__591 : decode cL_law_ 591 = .ok (.invokestatic 175, 3) := by decide +kernel
theorem dL_law__594 : decode cL_law_ 594 = .ok (.istore 5, 2) := by decide +kernel
theorem dL_law__596 : decode cL_law_ 596 = .ok (.aload_n 2, 1) := by decide +kernel
theorem dL_law__597 : decode cL_law_ 597 = .ok (.aload_n 0, 1) := by decide +kernel
theorem dL_law__598 : decode cL_law_ 598 = .ok (.iload 4, 2) := by decide +kernel
theorem dL_law__600 : decode cL_law_ 600 = .ok (.iconst 1, 1) := by decide +kernel
theorem dL_law__601 : decode cL_law_ 601 = .ok (.iadd, 1) := by decide +kernel
theorem dL_law__602 : decode cL_law_ 602 = .ok (.iaload, 1) := by decide +kernel
theorem dL_law__603 : decode cL_law_ 603 = .ok (.aload_n 0, 1) := by decide +kernel
theorem dL_law__604 : decode cL_law_ 604 = .ok (.iload 4, 2) := by decide +kernel
theorem dL_law__606 : decode cL_law_ 606 = .ok (.iconst 2, 1) := by decide +kernel
theorem dL_law__607 : decode cL_law_ 607 = .ok (.iadd, 1) := by decide +kernel
theorem dL_law__608 : decode cL_law_ 608 = .ok (.iaload, 1) := by decide +kernel
theorem dL_law__609 : decode cL_law_ 609 = .ok (.ifCond .eq 7, 3) := by decide +kernel
theorem dL_law__612 : decode cL_law_ 612 = .ok (.iconst 1, 1) := by decide +kernel
theorem dL_law__613 : decode cL_law_ 613 = .ok (.goto 4, 3) := by decide +kernel
theorem dL_law__616 : decode cL_law_ 616 = .ok (.iconst 0, 1) := by decide +kernel
theorem dL_law__617 : decode cL_law_ 617 = .ok (.invokevirtual 177, 3) := by decide +kernel
theorem dL_law__620 : decode cL_law_ 620 = .ok (.lstore 6, 2) := by decide +kernel
theorem dL_law__622 : decode cL_law_ 622 = .ok (.aload_n 2, 1) := by decide +kernel
theorem dL_law__623 : decode cL_law_ 623 = .ok (.invokevirtual 157, 3) := by decide +kernel
theorem dL_law__626 : decode cL_law_ 626 = .ok (.iload 5, 2) := by decide +kernel
theorem dL_law__628 : decode cL_law_ 628 = .ok (.if_icmp .eq 5, 3) := by decide +kernel
theorem dL_law__631 : decode cL_law_ 631 = .ok (.iconst 0, 1) := by decide +kernel
theorem dL_law__632 : decode cL_law_ 632 = .ok (.ireturn, 1) := by decide +kernel
theorem dL_law__633 : decode cL_law_ 633 = .ok (.iload 5, 2) := by decide +kernel
theorem dL_law__635 : decode cL_law_ 635 = .ok (.ifCond .ne 14, 3) := by decide +kernel
theorem dL_law__638 : decode cL_law_ 638 = .ok (.aload_n 3, 1) := by decide +kernel
theorem dL_law__639 : decode cL_law_ 639 = .ok (.iconst 0, 1) := by decide +kernel
theorem dL_law__640 : decode cL_law_ 640 = .ok (.laload, 1) := by decide +kernel
theorem dL_law__641 : decode cL_law_ 641 = .ok (.lload 6, 2) := by decide +kernel
theorem dL_law__643 : decode cL_law_ 643 = .ok (.lcmp, 1) := by decide +kernel
theorem dL_law__644 : decode cL_law_ 644 = .ok (.ifCond .eq 5, 3) := by decide +kernel
theorem dL_law__647 : decode cL_law_ 647 = .ok (.iconst 0, 1) := by decide +kernel
theorem dL_law__648 : decode cL_law_ 648 = .ok (.ireturn, 1) := by decide +kernel
theorem dL_law__649 : decode cL_law_ 649 = .ok (.goto 2686, 3) := by decide +kernel
theorem dL_law__652 : decode cL_law_ 652 = .ok (.aload_n 1, 1) := by decide +kernel
theorem dL_law__653 : decode cL_law_ 653 = .ok (.aload_n 0, 1) := by decide +kernel
theorem dL_law__654 : decode cL_law_ 654 = .ok (.iload 4, 2) := by decide +kernel
theorem dL_law__656 : decode cL_law_ 656 = .ok (.iconst 1, 1) := by decide +kernel
theorem dL_law__657 : decode cL_law_ 657 = .ok (.iadd, 1) := by decide +kernel
theorem dL_law__658 : decode cL_law_ 658 = .ok (.iaload, 1) := by decide +kernel
theorem dL_law__659 : decode cL_law_ 659 = .ok (.i2l, 1) := by decide +kernel
theorem dL_law__660 : decode cL_law_ 660 = .ok (.bipush 32, 2) := by decide +kernel
theorem dL_law__662 : decode cL_law_ 662 = .ok (.lshl, 1) := by decide +kernel
theorem dL_law__663 : decode cL_law_ 663 = .ok (.aload_n 0, 1) := by decide +kernel
theorem dL_law__664 : decode cL_law_ 664 = .ok (.iload 4, 2) := by decide +kernel
theorem dL_law__666 : decode cL_law_ 666 = .ok (.iconst 2, 1) := by decide +kernel
theorem dL_law__667 : decode cL_law_ 667 = .ok (.iadd, 1) := by decide +kernel
theorem dL_law__668 : decode cL_law_ 668 = .ok (.iaload, 1) := by decide +kernel
theorem dL_law__669 : decode cL_law_ 669 = .ok (.i2l, 1) := by decide +kernel
theorem dL_law__670 : decode cL_law_ 670 = .ok (.ldc2_w 178, 3) := by decide +kernel
theorem dL_law__673 : decode cL_law_ 673 = .ok (.land, 1) := by decide +kernel
theorem dL_law__674 : decode cL_law_ 674 = .ok (.lor, 1) := by decide +kernel
theorem dL_law__675 : decode cL_law_ 675 = .ok (.aload_n 0, 1) := by decide +kernel
theorem dL_law__676 : decode cL_law_ 676 = .ok (.iload 4, 2) := by decide +kernel
theorem dL_law__678 : decode cL_law_ 678 = .ok (.iconst 3, 1) := by decide +kernel
theorem dL_law__679 : decode cL_law_ 679 = .ok (.iadd, 1) := by decide +kernel
theorem dL_law__680 : decode cL_law_ 680 = .ok (.iaload, 1) := by decide +kernel
theorem dL_law__681 : decode cL_law_ 681 = .ok (.aload_n 3, 1) := by decide +kernel
theorem dL_law__682 : decode cL_law_ 682 = .ok (.invokestatic 180, 3) := by decide +kernel
theorem dL_law__685 : decode cL_law_ 685 = .ok (.istore 5, 2) := by decide +kernel
theorem dL_law__687 : decode cL_law_ 687 = .ok (.aload_n 2, 1) := by decide +kernel
theorem dL_law__688 : decode cL_law_ 688 = .ok (.aload_n 0, 1) := by decide +kernel
theorem dL_law__689 : decode cL_law_ 689 = .ok (.iload 4, 2) := by decide +kernel
theorem dL_law__691 : decode cL_law_ 691 = .ok (.iconst 1, 1) := by decide +kernel
theorem dL_law__692 : decode cL_law_ 692 = .ok (.iadd, 1) := by decide +kernel
theorem dL_law__693 : decode cL_law_ 693 = .ok (.iaload, 1) := by decide +kernel
theorem dL_law__694 : decode cL_law_ 694 = .ok (.i2l, 1) := by decide +kernel
theorem dL_law__695 : decode cL_law_ 695 = .ok (.bipush 32, 2) := by decide +kernel
theorem dL_law__697 : decode cL_law_ 697 = .ok (.lshl, 1) := by decide +kernel
theorem dL_law__698 : decode cL_law_ 698 = .ok (.aload_n 0, 1) := by decide +kernel
theorem dL_law__699 : decode cL_law_ 699 = .ok (.iload 4, 2) := by decide +kernel
theorem dL_law__701 : decode cL_law_ 701 = .ok (.iconst 2, 1) := by decide +kernel
theorem dL_law__702 : decode cL_law_ 702 = .ok (.iadd, 1) := by decide +kernel
theorem dL_law__703 : decode cL_law_ 703 = .ok (.iaload, 1) := by decide +kernel
theorem dL_law__704 : decode cL_law_ 704 = .ok (.i2l, 1) := by decide +kernel
theorem dL_law__705 : decode cL_law_ 705 = .ok (.ldc2_w 178, 3) := by decide +kernel
theorem dL_law__708 : decode cL_law_ 708 = .ok (.land, 1) := by decide +kernel
theorem dL_law__709 : decode cL_law_ 709 = .ok (.lor, 1) := by decide +kernel
theorem dL_law__710 : decode cL_law_ 710 = .ok (.aload_n 0, 1) := by decide +kernel
theorem dL_law__711 : decode cL_law_ 711 = .ok (.iload 4, 2) := by decide +kernel
theorem dL_law__713 : decode cL_law_ 713 = .ok (.iconst 3, 1) := by decide +kernel
theorem dL_law__714 : decode cL_law_ 714 = .ok (.iadd, 1) := by decide +kernel
theorem dL_law__715 : decode cL_law_ 715 = .ok (.iaload, 1) := by decide +kernel
theorem dL_law__716 : decode cL_law_ 716 = .ok (.invokevirtual 183, 3) := by decide +kernel
theorem dL_law__719 : decode cL_law_ 719 = .ok (.istore 6, 2) := by decide +kernel
theorem dL_law__721 : decode cL_law_ 721 = .ok (.aload_n 2, 1) := by decide +kernel
theorem dL_law__722 : decode cL_law_ 722 = .ok (.invokevirtual 157, 3) := by decide +kernel
theorem dL_law__725 : decode cL_law_ 725 = .ok (.iload 5, 2) := by decide +kernel
theorem dL_law__727 : decode cL_law_ 727 = .ok (.if_icmp .eq 5, 3) := by decide +kernel
theorem dL_law__730 : decode cL_law_ 730 = .ok (.iconst 0, 1) := by decide +kernel
theorem dL_law__731 : decode cL_law_ 731 = .ok (.ireturn, 1) := by decide +kernel
theorem dL_law__732 : decode cL_law_ 732 = .ok (.iload 5, 2) := by decide +kernel
theorem dL_law__734 : decode cL_law_ 734 = .ok (.ifCond .ne 15, 3) := by decide +kernel
theorem dL_law__737 : decode cL_law_ 737 = .ok (.aload_n 3, 1) := by decide +kernel
theorem dL_law__738 : decode cL_law_ 738 = .ok (.iconst 0, 1) := by decide +kernel
theorem dL_law__739 : decode cL_law_ 739 = .ok (.laload, 1) := by decide +kernel
theorem dL_law__740 : decode cL_law_ 740 = .ok (.iload 6, 2) := by decide +kernel
theorem dL_law__742 : decode cL_law_ 742 = .ok (.i2l, 1) := by decide +kernel
theorem dL_law__743 : decode cL_law_ 743 = .ok (.lcmp, 1) := by decide +kernel
theorem dL_law__744 : decode cL_law_ 744 = .ok (.ifCond .eq 5, 3) := by decide +kernel
theorem dL_law__747 : decode cL_law_ 747 = .ok (.iconst 0, 1) := by decide +kernel
theorem dL_law__748 : decode cL_law_ 748 = .ok (.ireturn, 1) := by decide +kernel
theorem dL_law__749 : decode cL_law_ 749 = .ok (.goto 2586, 3) := by decide +kernel
theorem dL_law__752 : decode cL_law_ 752 = .ok (.aload_n 1, 1) := by decide +kernel
theorem dL_law__753 : decode cL_law_ 753 = .ok (.aload_n 0, 1) := by decide +kernel
theorem dL_law__754 : decode cL_law_ 754 = .ok (.iload 4, 2) := by decide +kernel
theorem dL_law__756 : decode cL_law_ 756 = .ok (.iconst 1, 1) := by decide +kernel
theorem dL_law__757 : decode cL_law_ 757 = .ok (.iadd, 1) := by decide +kernel
theorem dL_law__758 : decode cL_law_ 758 = .ok (.iaload, 1) := by decide +kernel
theorem dL_law__759 : decode cL_law_ 759 = .ok (.aload_n 3, 1) := by decide +kernel
theorem dL_law__760 : decode cL_law_ 760 = .ok (.invokestatic 184, 3) := by decide +kernel
theorem dL_law__763 : decode cL_law_ 763 = .ok (.istore 5, 2) := by decide +kernel
theorem dL_law__765 : decode cL_law_ 765 = .ok (.aload_n 2, 1) := by decide +kernel
theorem dL_law__766 : decode cL_law_ 766 = .ok (.aload_n 0, 1) := by decide +kernel
theorem dL_law__767 : decode cL_law_ 767 = .ok (.iload 4, 2) := by decide +kernel
theorem dL_law__769 : decode cL_law_ 769 = .ok (.iconst 1, 1) := by decide +kernel
theorem dL_law__770 : decode cL_law_ 770 = .ok (.iadd, 1) := by decide +kernel
theorem dL_law__771 : decode cL_law_ 771 = .ok (.iaload, 1) := by decide +kernel
theorem dL_law__772 : decode cL_law_ 772 = .ok (.invokevirtual 186, 3) := by decide +kernel
theorem dL_law__775 : decode cL_law_ 775 = .ok (.istore 6, 2) := by decide +kernel
theorem dL_law__777 : decode cL_law_ 777 = .ok (.aload_n 2, 1) := by decide +kernel
theorem dL_law__778 : decode cL_law_ 778 = .ok (.invokevirtual 157, 3) := by decide +kernel
theorem dL_law__781 : decode cL_law_ 781 = .ok (.iload 5, 2) := by decide +kernel
theorem dL_law__783 : decode cL_law_ 783 = .ok (.if_icmp .eq 5, 3) := by decide +kernel
theorem dL_law__786 : decode cL_law_ 786 = .ok (.iconst 0, 1) := by decide +kernel
theorem dL_law__787 : decode cL_law_ 787 = .ok (.ireturn, 1) := by decide +kernel
theorem dL_law__788 : decode cL_law_ 788 = .ok (.iload 5, 2) := by decide +kernel
theorem dL_law__790 : decode cL_law_ 790 = .ok (.ifCond .ne 15, 3) := by decide +kernel
theorem dL_law__793 : decode cL_law_ 793 = .ok (.aload_n 3, 1) := by decide +kernel
theorem dL_law__794 : decode cL_law_ 794 = .ok (.iconst 0, 1) := by decide +kernel
theorem dL_law__795 : decode cL_law_ 795 = .ok (.laload, 1) := by decide +kernel
theorem dL_law__796 : decode cL_law_ 796 = .ok (.iload 6, 2) := by decide +kernel
theorem dL_law__798 : decode cL_law_ 798 = .ok (.i2l, 1) := by decide +kernel
theorem dL_law__799 : decode cL_law_ 799 = .ok (.lcmp, 1) := by decide +kernel
theorem dL_law__800 : decode cL_law_ 800 = .ok (.ifCond .eq 5, 3) := by decide +kernel
theorem dL_law__803 : decode cL_law_ 803 = .ok (.iconst 0, 1) := by decide +kernel
theorem dL_law__804 : decode cL_law_ 804 = .ok (.ireturn, 1) := by decide +kernel
theorem dL_law__805 : decode cL_law_ 805 = .ok (.goto 2530, 3) := by decide +kernel
theorem dL_law__808 : decode cL_law_ 808 = .ok (.aload_n 1, 1) := by decide +kernel
theorem dL_law__809 : decode cL_law_ 809 = .ok (.aload_n 0, 1) := by decide +kernel
theorem dL_law__810 : decode cL_law_ 810 = .ok (.iload 4, 2) := by decide +kernel
theorem dL_law__812 : decode cL_law_ 812 = .ok (.iconst 1, 1) := by decide +kernel
theorem dL_law__813 : decode cL_law_ 813 = .ok (.iadd, 1) := by decide +kernel
theorem dL_law__814 : decode cL_law_ 814 = .ok (.iaload, 1) := by decide +kernel
theorem dL_law__815 : decode cL_law_ 815 = .ok (.aload_n 0, 1) := by decide +kernel
theorem dL_law__816 : decode cL_law_ 816 = .ok (.iload 4, 2) := by decide +kernel
theorem dL_law__818 : decode cL_law_ 818 = .ok (.iconst 2, 1) := by decide +kernel
theorem dL_law__819 : decode cL_law_ 819 = .ok (.iadd, 1) := by decide +kernel
theorem dL_law__820 : decode cL_law_ 820 = .ok (.iaload, 1) := by decide +kernel
theorem dL_law__821 : decode cL_law_ 821 = .ok (.aload_n 0, 1) := by decide +kernel
theorem dL_law__822 : decode cL_law_ 822 = .ok (.iload 4, 2) := by decide +kernel
theorem dL_law__824 : decode cL_law_ 824 = .ok (.iconst 3, 1) := by decide +kernel
theorem dL_law__825 : decode cL_law_ 825 = .ok (.iadd, 1) := by decide +kernel
theorem dL_law__826 : decode cL_law_ 826 = .ok (.iaload, 1) := by decide +kernel
theorem dL_law__827 : decode cL_law_ 827 = .ok (.aload_n 3, 1) := by decide +kernel
theorem dL_law__828 : decode cL_law_ 828 = .ok (.invokestatic 187, 3) := by decide +kernel
theorem dL_law__831 : decode cL_law_ 831 = .ok (.istore 5, 2) := by decide +kernel
theorem dL_law__833 : decode cL_law_ 833 = .ok (.aload_n 2, 1) := by decide +kernel
theorem dL_law__834 : decode cL_law_ 834 = .ok (.aload_n 0, 1) := by decide +kernel
theorem dL_law__835 : decode cL_law_ 835 = .ok (.iload 4, 2) := by decide +kernel
theorem dL_law__837 : decode cL_law_ 837 = .ok (.iconst 1, 1) := by decide +kernel
theorem dL_law__838 : decode cL_law_ 838 = .ok (.iadd, 1) := by decide +kernel
theorem dL_law__839 : decode cL_law_ 839 = .ok (.iaload, 1) := by decide +kernel
theorem dL_law__840 : decode cL_law_ 840 = .ok (.aload_n 0, 1) := by decide +kernel
theorem dL_law__841 : decode cL_law_ 841 = .ok (.iload 4, 2) := by decide +kernel
theorem dL_law__843 : decode cL_law_ 843 = .ok (.iconst 2, 1) := by decide +kernel
theorem dL_law__844 : decode cL_law_ 844 = .ok (.iadd, 1) := by decide +kernel
theorem dL_law__845 : decode cL_law_ 845 = .ok (.iaload, 1) := by decide +kernel
theorem dL_law__846 : decode cL_law_ 846 = .ok (.aload_n 0, 1) := by decide +kernel
theorem dL_law__847 : decode cL_law_ 847 = .ok (.iload 4, 2) := by decide +kernel
theorem dL_law__849 : decode cL_law_ 849 = .ok (.iconst 3, 1) := by decide +kernel
theorem dL_law__850 : decode cL_law_ 850 = .ok (.iadd, 1) := by decide +kernel
theorem dL_law__851 : decode cL_law_ 851 = .ok (.iaload, 1) := by decide +kernel
theorem dL_law__852 : decode cL_law_ 852 = .ok (.invokevirtual 190, 3) := by decide +kernel
theorem dL_law__855 : decode cL_law_ 855 = .ok (.istore 6, 2) := by decide +kernel
theorem dL_law__857 : decode cL_law_ 857 = .ok (.aload_n 2, 1) := by decide +kernel
theorem dL_law__858 : decode cL_law_ 858 = .ok (.invokevirtual 157, 3) := by decide +kernel
theorem dL_law__861 : decode cL_law_ 861 = .ok (.iload 5, 2) := by decide +kernel
theorem dL_law__863 : decode cL_law_ 863 = .ok (.if_icmp .eq 5, 3) := by decide +kernel
theorem dL_law__866 : decode cL_law_ 866 = .ok (.iconst 0, 1) := by decide +kernel
theorem dL_law__867 : decode cL_law_ 867 = .ok (.ireturn, 1) := by decide +kernel
theorem dL_law__868 : decode cL_law_ 868 = .ok (.iload 5, 2) := by decide +kernel
theorem dL_law__870 : decode cL_law_ 870 = .ok (.ifCond .ne 15, 3) := by decide +kernel
theorem dL_law__873 : decode cL_law_ 873 = .ok (.aload_n 3, 1) := by decide +kernel
theorem dL_law__874 : decode cL_law_ 874 = .ok (.iconst 0, 1) := by decide +kernel
theorem dL_law__875 : decode cL_law_ 875 = .ok (.laload, 1) := by decide +kernel
theorem dL_law__876 : decode cL_law_ 876 = .ok (.iload 6, 2) := by decide +kernel
theorem dL_law__878 : decode cL_law_ 878 = .ok (.i2l, 1) := by decide +kernel
theorem dL_law__879 : decode cL_law_ 879 = .ok (.lcmp, 1) := by decide +kernel
theorem dL_law__880 : decode cL_law_ 880 = .ok (.ifCond .eq 5, 3) := by decide +kernel
theorem dL_law__883 : decode cL_law_ 883 = .ok (.iconst 0, 1) := by decide +kernel
theorem dL_law__884 : decode cL_law_ 884 = .ok (.ireturn, 1) := by decide +kernel
theorem dL_law__885 : decode cL_law_ 885 = .ok (.goto 2450, 3) := by decide +kernel
theorem dL_law__888 : decode cL_law_ 888 = .ok (.aload_n 1, 1) := by decide +kernel
theorem dL_law__889 : decode cL_law_ 889 = .ok (.aload_n 0, 1) := by decide +kernel
theorem dL_law__890 : decode cL_law_ 890 = .ok (.iload 4, 2) := by decide +kernel
theorem dL_law__892 : decode cL_law_ 892 = .ok (.iconst 1, 1) := by decide +kernel
theorem dL_law__893 : decode cL_law_ 893 = .ok (.iadd, 1) := by decide +kernel
theorem dL_law__894 : decode cL_law_ 894 = .ok (.iaload, 1) := by decide +kernel
theorem dL_law__895 : decode cL_law_ 895 = .ok (.i2l, 1) := by decide +kernel
theorem dL_law__896 : decode cL_law_ 896 = .ok (.bipush 32, 2) := by decide +kernel
theorem dL_law__898 : decode cL_law_ 898 = .ok (.lshl, 1) := by decide +kernel
theorem dL_law__899 : decode cL_law_ 899 = .ok (.aload_n 0, 1) := by decide +kernel
theorem dL_law__900 : decode cL_law_ 900 = .ok (.iload 4, 2) := by decide +kernel
theorem dL_law__902 : decode cL_law_ 902 = .ok (.iconst 2, 1) := by decide +kernel
theorem dL_law__903 : decode cL_law_ 903 = .ok (.iadd, 1) := by decide +kernel
theorem dL_law__904 : decode cL_law_ 904 = .ok (.iaload, 1) := by decide +kernel
theorem dL_law__905 : decode cL_law_ 905 = .ok (.i2l, 1) := by decide +kernel
theorem dL_law__906 : decode cL_law_ 906 = .ok (.ldc2_w 178, 3) := by decide +kernel
theorem dL_law__909 : decode cL_law_ 909 = .ok (.land, 1) := by decide +kernel
theorem dL_law__910 : decode cL_law_ 910 = .ok (.lor, 1) := by decide +kernel
theorem dL_law__911 : decode cL_law_ 911 = .ok (.aload_n 0, 1) := by decide +kernel
theorem dL_law__912 : decode cL_law_ 912 = .ok (.iload 4, 2) := by decide +kernel
theorem dL_law__914 : decode cL_law_ 914 = .ok (.iconst 3, 1) := by decide +kernel
theorem dL_law__915 : decode cL_law_ 915 = .ok (.iadd, 1) := by decide +kernel
theorem dL_law__916 : decode cL_law_ 916 = .ok (.iaload, 1) := by decide +kernel
theorem dL_law__917 : decode cL_law_ 917 = .ok (.aload_n 0, 1) := by decide +kernel
theorem dL_law__918 : decode cL_law_ 918 = .ok (.iload 4, 2) := by decide +kernel
theorem dL_law__920 : decode cL_law_ 920 = .ok (.iconst 4, 1) := by decide +kernel
theorem dL_law__921 : decode cL_law_ 921 = .ok (.iadd, 1) := by decide +kernel
theorem dL_law__922 : decode cL_law_ 922 = .ok (.iaload, 1) := by decide +kernel
theorem dL_law__923 : decode cL_law_ 923 = .ok (.aload_n 3, 1) := by decide +kernel
theorem dL_law__924 : decode cL_law_ 924 = .ok (.invokestatic 191, 3) := by decide +kernel
theorem dL_law__927 : decode cL_law_ 927 = .ok (.istore 5, 2) := by decide +kernel
theorem dL_law__929 : decode cL_law_ 929 = .ok (.aload_n 2, 1) := by decide +kernel
theorem dL_law__930 : decode cL_law_ 930 = .ok (.aload_n 0, 1) := by decide +kernel
theorem dL_law__931 : decode cL_law_ 931 = .ok (.iload 4, 2) := by decide +kernel
theorem dL_law__933 : decode cL_law_ 933 = .ok (.iconst 1, 1) := by decide +kernel
theorem dL_law__934 : decode cL_law_ 934 = .ok (.iadd, 1) := by decide +kernel
theorem dL_law__935 : decode cL_law_ 935 = .ok (.iaload, 1) := by decide +kernel
theorem dL_law__936 : decode cL_law_ 936 = .ok (.i2l, 1) := by decide +kernel
theorem dL_law__937 : decode cL_law_ 937 = .ok (.bipush 32, 2) := by decide +kernel
theorem dL_law__939 : decode cL_law_ 939 = .ok (.lshl, 1) := by decide +kernel
theorem dL_law__940 : decode cL_law_ 940 = .ok (.aload_n 0, 1) := by decide +kernel
theorem dL_law__941 : decode cL_law_ 941 = .ok (.iload 4, 2) := by decide +kernel
theorem dL_law__943 : decode cL_law_ 943 = .ok (.iconst 2, 1) := by decide +kernel
theorem dL_law__944 : decode cL_law_ 944 = .ok (.iadd, 1) := by decide +kernel
theorem dL_law__945 : decode cL_law_ 945 = .ok (.iaload, 1) := by decide +kernel
theorem dL_law__946 : decode cL_law_ 946 = .ok (.i2l, 1) := by decide +kernel
theorem dL_law__947 : decode cL_law_ 947 = .ok (.ldc2_w 178, 3) := by decide +kernel
theorem dL_law__950 : decode cL_law_ 950 = .ok (.land, 1) := by decide +kernel
theorem dL_law__951 : decode cL_law_ 951 = .ok (.lor, 1) := by decide +kernel
theorem dL_law__952 : decode cL_law_ 952 = .ok (.aload_n 0, 1) := by decide +kernel
theorem dL_law__953 : decode cL_law_ 953 = .ok (.iload 4, 2) := by decide +kernel
theorem dL_law__955 : decode cL_law_ 955 = .ok (.iconst 3, 1) := by decide +kernel
theorem dL_law__956 : decode cL_law_ 956 = .ok (.iadd, 1) := by decide +kernel
theorem dL_law__957 : decode cL_law_ 957 = .ok (.iaload, 1) := by decide +kernel
theorem dL_law__958 : decode cL_law_ 958 = .ok (.aload_n 0, 1) := by decide +kernel
theorem dL_law__959 : decode cL_law_ 959 = .ok (.iload 4, 2) := by decide +kernel
theorem dL_law__961 : decode cL_law_ 961 = .ok (.iconst 4, 1) := by decide +kernel
theorem dL_law__962 : decode cL_law_ 962 = .ok (.iadd, 1) := by decide +kernel
theorem dL_law__963 : decode cL_law_ 963 = .ok (.iaload, 1) := by decide +kernel
theorem dL_law__964 : decode cL_law_ 964 = .ok (.invokevirtual 194, 3) := by decide +kernel
theorem dL_law__967 : decode cL_law_ 967 = .ok (.istore 6, 2) := by decide +kernel
theorem dL_law__969 : decode cL_law_ 969 = .ok (.aload_n 2, 1) := by decide +kernel
theorem dL_law__970 : decode cL_law_ 970 = .ok (.invokevirtual 157, 3) := by decide +kernel
theorem dL_law__973 : decode cL_law_ 973 = .ok (.iload 5, 2) := by decide +kernel
theorem dL_law__975 : decode cL_law_ 975 = .ok (.if_icmp .eq 5, 3) := by decide +kernel
theorem dL_law__978 : decode cL_law_ 978 = .ok (.iconst 0, 1) := by decide +kernel
theorem dL_law__979 : decode cL_law_ 979 = .ok (.ireturn, 1) := by decide +kernel
theorem dL_law__980 : decode cL_law_ 980 = .ok (.iload 5, 2) := by decide +kernel
theorem dL_law__982 : decode cL_law_ 982 = .ok (.ifCond .ne 22, 3) := by decide +kernel
theorem dL_law__985 : decode cL_law_ 985 = .ok (.aload_n 3, 1) := by decide +kernel
theorem dL_law__986 : decode cL_law_ 986 = .ok (.iconst 0, 1) := by decide +kernel
theorem dL_law__987 : decode cL_law_ 987 = .ok (.laload, 1) := by decide +kernel
theorem dL_law__988 : decode cL_law_ 988 = .ok (.iload 6, 2) := by decide +kernel
theorem dL_law__990 : decode cL_law_ 990 = .ok (.ifCond .eq 7, 3) := by decide +kernel
theorem dL_law__993 : decode cL_law_ 993 = .ok (.lconst 1, 1) := by decide +kernel
theorem dL_law__994 : decode cL_law_ 994 = .ok (.goto 4, 3) := by decide +kernel
theorem dL_law__997 : decode cL_law_ 997 = .ok (.lconst 0, 1) := by decide +kernel
theorem dL_law__998 : decode cL_law_ 998 = .ok (.lcmp, 1) := by decide +kernel
theorem dL_law__999 : decode cL_law_ 999 = .ok (.ifCond .eq 5, 3) := by decide +kernel
theorem dL_law__1002 : decode cL_law_ 1002 = .ok (.iconst 0, 1) := by decide +kernel
theorem dL_law__1003 : decode cL_law_ 1003 = .ok (.ireturn, 1) := by decide +kernel
theorem dL_law__1004 : decode cL_law_ 1004 = .ok (.goto 2331, 3) := by decide +kernel
theorem dL_law__1007 : decode cL_law_ 1007 = .ok (.aload_n 1, 1) := by decide +kernel
theorem dL_law__1008 : decode cL_law_ 1008 = .ok (.aload_n 0, 1) := by decide +kernel
theorem dL_law__1009 : decode cL_law_ 1009 = .ok (.iload 4, 2) := by decide +kernel
theorem dL_law__1011 : decode cL_law_ 1011 = .ok (.iconst 1, 1) := by decide +kernel
theorem dL_law__1012 : decode cL_law_ 1012 = .ok (.iadd, 1) := by decide +kernel
theorem dL_law__1013 : decode cL_law_ 1013 = .ok (.iaload, 1) := by decide +kernel
theorem dL_law__1014 : decode cL_law_ 1014 = .ok (.aload_n 0, 1) := by decide +kernel
theorem dL_law__1015 : decode cL_law_ 1015 = .ok (.iload 4, 2) := by decide +kernel
theorem dL_law__1017 : decode cL_law_ 1017 = .ok (.iconst 2, 1) := by decide +kernel
theorem dL_law__1018 : decode cL_law_ 1018 = .ok (.iadd, 1) := by decide +kernel
theorem dL_law__1019 : decode cL_law_ 1019 = .ok (.iaload, 1) := by decide +kernel
theorem dL_law__1020 : decode cL_law_ 1020 = .ok (.aload_n 0, 1) := by decide +kernel
theorem dL_law__1021 : decode cL_law_ 1021 = .ok (.iload 4, 2) := by decide +kernel
theorem dL_law__1023 : decode cL_law_ 1023 = .ok (.iconst 3, 1) := by decide +kernel
theorem dL_law__1024 : decode cL_law_ 1024 = .ok (.iadd, 1) := by decide +kernel
theorem dL_law__1025 : decode cL_law_ 1025 = .ok (.iaload, 1) := by decide +kernel
theorem dL_law__1026 : decode cL_law_ 1026 = .ok (.aload_n 3, 1) := by decide +kernel
theorem dL_law__1027 : decode cL_law_ 1027 = .ok (.invokestatic 195, 3) := by decide +kernel
theorem dL_law__1030 : decode cL_law_ 1030 = .ok (.istore 5, 2) := by decide +kernel
theorem dL_law__1032 : decode cL_law_ 1032 = .ok (.aload_n 2, 1) := by decide +kernel
theorem dL_law__1033 : decode cL_law_ 1033 = .ok (.aload_n 0, 1) := by decide +kernel
theorem dL_law__1034 : decode cL_law_ 1034 = .ok (.iload 4, 2) := by decide +kernel
theorem dL_law__1036 : decode cL_law_ 1036 = .ok (.iconst 1, 1) := by decide +kernel
theorem dL_law__1037 : decode cL_law_ 1037 = .ok (.iadd, 1) := by decide +kernel
theorem dL_law__1038 : decode cL_law_ 1038 = .ok (.iaload, 1) := by decide +kernel
theorem dL_law__1039 : decode cL_law_ 1039 = .ok (.aload_n 0, 1) := by decide +kernel
theorem dL_law__1040 : decode cL_law_ 1040 = .ok (.iload 4, 2) := by decide +kernel
theorem dL_law__1042 : decode cL_law_ 1042 = .ok (.iconst 2, 1) := by decide +kernel
theorem dL_law__1043 : decode cL_law_ 1043 = .ok (.iadd, 1) := by decide +kernel
theorem dL_law__1044 : decode cL_law_ 1044 = .ok (.iaload, 1) := by decide +kernel
theorem dL_law__1045 : decode cL_law_ 1045 = .ok (.aload_n 0, 1) := by decide +kernel
theorem dL_law__1046 : decode cL_law_ 1046 = .ok (.iload 4, 2) := by decide +kernel
theorem dL_law__1048 : decode cL_law_ 1048 = .ok (.iconst 3, 1) := by decide +kernel
theorem dL_law__1049 : decode cL_law_ 1049 = .ok (.iadd, 1) := by decide +kernel
theorem dL_law__1050 : decode cL_law_ 1050 = .ok (.iaload, 1) := by decide +kernel
theorem dL_law__1051 : decode cL_law_ 1051 = .ok (.invokevirtual 197, 3) := by decide +kernel
theorem dL_law__1054 : decode cL_law_ 1054 = .ok (.lstore 6, 2) := by decide +kernel
theorem dL_law__1056 : decode cL_law_ 1056 = .ok (.aload_n 2, 1) := by decide +kernel
theorem dL_law__1057 : decode cL_law_ 1057 = .ok (.invokevirtual 157, 3) := by decide +kernel
theorem dL_law__1060 : decode cL_law_ 1060 = .ok (.iload 5, 2) := by decide +kernel
theorem dL_law__1062 : decode cL_law_ 1062 = .ok (.if_icmp .eq 5, 3) := by decide +kernel
theorem dL_law__1065 : decode cL_law_ 1065 = .ok (.iconst 0, 1) := by decide +kernel
theorem dL_law__1066 : decode cL_law_ 1066 = .ok (.ireturn, 1) := by decide +kernel
theorem dL_law__1067 : decode cL_law_ 1067 = .ok (.iload 5, 2) := by decide +kernel
theorem dL_law__1069 : decode cL_law_ 1069 = .ok (.ifCond .ne 14, 3) := by decide +kernel
theorem dL_law__1072 : decode cL_law_ 1072 = .ok (.aload_n 3, 1) := by decide +kernel
theorem dL_law__1073 : decode cL_law_ 1073 = .ok (.iconst 0, 1) := by decide +kernel
theorem dL_law__1074 : decode cL_law_ 1074 = .ok (.laload, 1) := by decide +kernel
theorem dL_law__1075 : decode cL_law_ 1075 = .ok (.lload 6, 2) := by decide +kernel
theorem dL_law__1077 : decode cL_law_ 1077 = .ok (.lcmp, 1) := by decide +kernel
theorem dL_law__1078 : decode cL_law_ 1078 = .ok (.ifCond .eq 5, 3) := by decide +kernel
theorem dL_law__1081 : decode cL_law_ 1081 = .ok (.iconst 0, 1) := by decide +kernel
theorem dL_law__1082 : decode cL_law_ 1082 = .ok (.ireturn, 1) := by decide +kernel
theorem dL_law__1083 : decode cL_law_ 1083 = .ok (.goto 2252, 3) := by decide +kernel
theorem dL_law__1086 : decode cL_law_ 1086 = .ok (.aload_n 1, 1) := by decide +kernel
theorem dL_law__1087 : decode cL_law_ 1087 = .ok (.aload_n 0, 1) := by decide +kernel
theorem dL_law__1088 : decode cL_law_ 1088 = .ok (.iload 4, 2) := by decide +kernel
theorem dL_law__1090 : decode cL_law_ 1090 = .ok (.iconst 1, 1) := by decide +kernel
theorem dL_law__1091 : decode cL_law_ 1091 = .ok (.iadd, 1) := by decide +kernel
theorem dL_law__1092 : decode cL_law_ 1092 = .ok (.iaload, 1) := by decide +kernel
theorem dL_law__1093 : decode cL_law_ 1093 = .ok (.aload_n 0, 1) := by decide +kernel
theorem dL_law__1094 : decode cL_law_ 1094 = .ok (.iload 4, 2) := by decide +kernel
theorem dL_law__1096 : decode cL_law_ 1096 = .ok (.iconst 2, 1) := by decide +kernel
theorem dL_law__1097 : decode cL_law_ 1097 = .ok (.iadd, 1) := by decide +kernel
theorem dL_law__1098 : decode cL_law_ 1098 = .ok (.iaload, 1) := by decide +kernel
theorem dL_law__1099 : decode cL_law_ 1099 = .ok (.aload_n 3, 1) := by decide +kernel
theorem dL_law__1100 : decode cL_law_ 1100 = .ok (.invokestatic 198, 3) := by decide +kernel
theorem dL_law__1103 : decode cL_law_ 1103 = .ok (.istore 5, 2) := by decide +kernel
theorem dL_law__1105 : decode cL_law_ 1105 = .ok (.aload_n 2, 1) := by decide +kernel
theorem dL_law__1106 : decode cL_law_ 1106 = .ok (.aload_n 0, 1) := by decide +kernel
theorem dL_law__1107 : decode cL_law_ 1107 = .ok (.iload 4, 2) := by decide +kernel
theorem dL_law__1109 : decode cL_law_ 1109 = .ok (.iconst 1, 1) := by decide +kernel
theorem dL_law__1110 : decode cL_law_ 1110 = .ok (.iadd, 1) := by decide +kernel
theorem dL_law__1111 : decode cL_law_ 1111 = .ok (.iaload, 1) := by decide +kernel
theorem dL_law__1112 : decode cL_law_ 1112 = .ok (.aload_n 0, 1) := by decide +kernel
theorem dL_law__1113 : decode cL_law_ 1113 = .ok (.iload 4, 2) := by decide +kernel
theorem dL_law__1115 : decode cL_law_ 1115 = .ok (.iconst 2, 1) := by decide +kernel
theorem dL_law__1116 : decode cL_law_ 1116 = .ok (.iadd, 1) := by decide +kernel
theorem dL_law__1117 : decode cL_law_ 1117 = .ok (.iaload, 1) := by decide +kernel
theorem dL_law__1118 : decode cL_law_ 1118 = .ok (.invokevirtual 201, 3) := by decide +kernel
theorem dL_law__1121 : decode cL_law_ 1121 = .ok (.istore 6, 2) := by decide +kernel
theorem dL_law__1123 : decode cL_law_ 1123 = .ok (.aload_n 2, 1) := by decide +kernel
theorem dL_law__1124 : decode cL_law_ 1124 = .ok (.invokevirtual 157, 3) := by decide +kernel
theorem dL_law__1127 : decode cL_law_ 1127 = .ok (.iload 5, 2) := by decide +kernel
theorem dL_law__1129 : decode cL_law_ 1129 = .ok (.if_icmp .eq 5, 3) := by decide +kernel
theorem dL_law__1132 : decode cL_law_ 1132 = .ok (.iconst 0, 1) := by decide +kernel
theorem dL_law__1133 : decode cL_law_ 1133 = .ok (.ireturn, 1) := by decide +kernel
theorem dL_law__1134 : decode cL_law_ 1134 = .ok (.iload 5, 2) := by decide +kernel
theorem dL_law__1136 : decode cL_law_ 1136 = .ok (.ifCond .ne 15, 3) := by decide +kernel
theorem dL_law__1139 : decode cL_law_ 1139 = .ok (.aload_n 3, 1) := by decide +kernel
theorem dL_law__1140 : decode cL_law_ 1140 = .ok (.iconst 0, 1) := by decide +kernel
theorem dL_law__1141 : decode cL_law_ 1141 = .ok (.laload, 1) := by decide +kernel
theorem dL_law__1142 : decode cL_law_ 1142 = .ok (.iload 6, 2) := by decide +kernel
theorem dL_law__1144 : decode cL_law_ 1144 = .ok (.i2l, 1) := by decide +kernel
theorem dL_law__1145 : decode cL_law_ 1145 = .ok (.lcmp, 1) := by decide +kernel
theorem dL_law__1146 : decode cL_law_ 1146 = .ok (.ifCond .eq 5, 3) := by decide +kernel
theorem dL_law__1149 : decode cL_law_ 1149 = .ok (.iconst 0, 1) := by decide +kernel
theorem dL_law__1150 : decode cL_law_ 1150 = .ok (.ireturn, 1) := by decide +kernel
theorem dL_law__1151 : decode cL_law_ 1151 = .ok (.goto 2184, 3) := by decide +kernel
theorem dL_law__1154 : decode cL_law_ 1154 = .ok (.aload_n 1, 1) := by decide +kernel
theorem dL_law__1155 : decode cL_law_ 1155 = .ok (.aload_n 0, 1) := by decide +kernel
theorem dL_law__1156 : decode cL_law_ 1156 = .ok (.iload 4, 2) := by decide +kernel
theorem dL_law__1158 : decode cL_law_ 1158 = .ok (.iconst 1, 1) := by decide +kernel
theorem dL_law__1159 : decode cL_law_ 1159 = .ok (.iadd, 1) := by decide +kernel
theorem dL_law__1160 : decode cL_law_ 1160 = .ok (.iaload, 1) := by decide +kernel
theorem dL_law__1161 : decode cL_law_ 1161 = .ok (.aload_n 0, 1) := by decide +kernel
theorem dL_law__1162 : decode cL_law_ 1162 = .ok (.iload 4, 2) := by decide +kernel
theorem dL_law__1164 : decode cL_law_ 1164 = .ok (.iconst 2, 1) := by decide +kernel
theorem dL_law__1165 : decode cL_law_ 1165 = .ok (.iadd, 1) := by decide +kernel
theorem dL_law__1166 : decode cL_law_ 1166 = .ok (.iaload, 1) := by decide +kernel
theorem dL_law__1167 : decode cL_law_ 1167 = .ok (.i2l, 1) := by decide +kernel
theorem dL_law__1168 : decode cL_law_ 1168 = .ok (.bipush 32, 2) := by decide +kernel
theorem dL_law__1170 : decode cL_law_ 1170 = .ok (.lshl, 1) := by decide +kernel
theorem dL_law__1171 : decode cL_law_ 1171 = .ok (.aload_n 0, 1) := by decide +kernel
theorem dL_law__1172 : decode cL_law_ 1172 = .ok (.iload 4, 2) := by decide +kernel
theorem dL_law__1174 : decode cL_law_ 1174 = .ok (.iconst 3, 1) := by decide +kernel
theorem dL_law__1175 : decode cL_law_ 1175 = .ok (.iadd, 1) := by decide +kernel
theorem dL_law__1176 : decode cL_law_ 1176 = .ok (.iaload, 1) := by decide +kernel
theorem dL_law__1177 : decode cL_law_ 1177 = .ok (.i2l, 1) := by decide +kernel
theorem dL_law__1178 : decode cL_law_ 1178 = .ok (.ldc2_w 178, 3) := by decide +kernel
theorem dL_law__1181 : decode cL_law_ 1181 = .ok (.land, 1) := by decide +kernel
theorem dL_law__1182 : decode cL_law_ 1182 = .ok (.lor, 1) := by decide +kernel
theorem dL_law__1183 : decode cL_law_ 1183 = .ok (.aload_n 3, 1) := by decide +kernel
theorem dL_law__1184 : decode cL_law_ 1184 = .ok (.invokestatic 202, 3) := by decide +kernel
theorem dL_law__1187 : decode cL_law_ 1187 = .ok (.istore 5, 2) := by decide +kernel
theorem dL_law__1189 : decode cL_law_ 1189 = .ok (.aload_n 2, 1) := by decide +kernel
theorem dL_law__1190 : decode cL_law_ 1190 = .ok (.aload_n 0, 1) := by decide +kernel
theorem dL_law__1191 : decode cL_law_ 1191 = .ok (.iload 4, 2) := by decide +kernel
theorem dL_law__1193 : decode cL_law_ 1193 = .ok (.iconst 1, 1) := by decide +kernel
theorem dL_law__1194 : decode cL_law_ 1194 = .ok (.iadd, 1) := by decide +kernel
theorem dL_law__1195 : decode cL_law_ 1195 = .ok (.iaload, 1) := by decide +kernel
theorem dL_law__1196 : decode cL_law_ 1196 = .ok (.aload_n 0, 1) := by decide +kernel
theorem dL_law__1197 : decode cL_law_ 1197 = .ok (.iload 4, 2) := by decide +kernel
theorem dL_law__1199 : decode cL_law_ 1199 = .ok (.iconst 2, 1) := by decide +kernel
theorem dL_law__1200 : decode cL_law_ 1200 = .ok (.iadd, 1) := by decide +kernel
theorem dL_law__1201 : decode cL_law_ 1201 = .ok (.iaload, 1) := by decide +kernel
theorem dL_law__1202 : decode cL_law_ 1202 = .ok (.i2l, 1) := by decide +kernel
theorem dL_law__1203 : decode cL_law_ 1203 = .ok (.bipush 32, 2) := by decide +kernel
theorem dL_law__1205 : decode cL_law_ 1205 = .ok (.lshl, 1) := by decide +kernel
theorem dL_law__1206 : decode cL_law_ 1206 = .ok (.aload_n 0, 1) := by decide +kernel
theorem dL_law__1207 : decode cL_law_ 1207 = .ok (.iload 4, 2) := by decide +kernel
theorem dL_law__1209 : decode cL_law_ 1209 = .ok (.iconst 3, 1) := by decide +kernel
theorem dL_law__1210 : decode cL_law_ 1210 = .ok (.iadd, 1) := by decide +kernel
theorem dL_law__1211 : decode cL_law_ 1211 = .ok (.iaload, 1) := by decide +kernel
theorem dL_law__1212 : decode cL_law_ 1212 = .ok (.i2l, 1) := by decide +kernel
theorem dL_law__1213 : decode cL_law_ 1213 = .ok (.ldc2_w 178, 3) := by decide +kernel
theorem dL_law__1216 : decode cL_law_ 1216 = .ok (.land, 1) := by decide +kernel
theorem dL_law__1217 : decode cL_law_ 1217 = .ok (.lor, 1) := by decide +kernel
theorem dL_law__1218 : decode cL_law_ 1218 = .ok (.invokevirtual 205, 3) := by decide +kernel
theorem dL_law__1221 : decode cL_law_ 1221 = .ok (.lstore 6, 2) := by decide +kernel
theorem dL_law__1223 : decode cL_law_ 1223 = .ok (.aload_n 2, 1) := by decide +kernel
theorem dL_law__1224 : decode cL_law_ 1224 = .ok (.invokevirtual 157, 3) := by decide +kernel
theorem dL_law__1227 : decode cL_law_ 1227 = .ok (.iload 5, 2) := by decide +kernel
theorem dL_law__1229 : decode cL_law_ 1229 = .ok (.if_icmp .eq 5, 3) := by decide +kernel
theorem dL_law__1232 : decode cL_law_ 1232 = .ok (.iconst 0, 1) := by decide +kernel
theorem dL_law__1233 : decode cL_law_ 1233 = .ok (.ireturn, 1) := by decide +kernel
theorem dL_law__1234 : decode cL_law_ 1234 = .ok (.iload 5, 2) := by decide +kernel
theorem dL_law__1236 : decode cL_law_ 1236 = .ok (.ifCond .ne 14, 3) := by decide +kernel
theorem dL_law__1239 : decode cL_law_ 1239 = .ok (.aload_n 3, 1) := by decide +kernel
theorem dL_law__1240 : decode cL_law_ 1240 = .ok (.iconst 0, 1) := by decide +kernel
theorem dL_law__1241 : decode cL_law_ 1241 = .ok (.laload, 1) := by decide +kernel
theorem dL_law__1242 : decode cL_law_ 1242 = .ok (.lload 6, 2) := by decide +kernel
theorem dL_law__1244 : decode cL_law_ 1244 = .ok (.lcmp, 1) := by decide +kernel
theorem dL_law__1245 : decode cL_law_ 1245 = .ok (.ifCond .eq 5, 3) := by decide +kernel
theorem dL_law__1248 : decode cL_law_ 1248 = .ok (.iconst 0, 1) := by decide +kernel
theorem dL_law__1249 : decode cL_law_ 1249 = .ok (.ireturn, 1) := by decide +kernel
theorem dL_law__1250 : decode cL_law_ 1250 = .ok (.goto 2085, 3) := by decide +kernel
theorem dL_law__1253 : decode cL_law_ 1253 = .ok (.aload_n 1, 1) := by decide +kernel
theorem dL_law__1254 : decode cL_law_ 1254 = .ok (.aload_n 0, 1) := by decide +kernel
theorem dL_law__1255 : decode cL_law_ 1255 = .ok (.iload 4, 2) := by decide +kernel
theorem dL_law__1257 : decode cL_law_ 1257 = .ok (.iconst 1, 1) := by decide +kernel
theorem dL_law__1258 : decode cL_law_ 1258 = .ok (.iadd, 1) := by decide +kernel
theorem dL_law__1259 : decode cL_law_ 1259 = .ok (.iaload, 1) := by decide +kernel
theorem dL_law__1260 : decode cL_law_ 1260 = .ok (.i2l, 1) := by decide +kernel
theorem dL_law__1261 : decode cL_law_ 1261 = .ok (.bipush 32, 2) := by decide +kernel
theorem dL_law__1263 : decode cL_law_ 1263 = .ok (.lshl, 1) := by decide +kernel
theorem dL_law__1264 : decode cL_law_ 1264 = .ok (.aload_n 0, 1) := by decide +kernel
theorem dL_law__1265 : decode cL_law_ 1265 = .ok (.iload 4, 2) := by decide +kernel
theorem dL_law__1267 : decode cL_law_ 1267 = .ok (.iconst 2, 1) := by decide +kernel
theorem dL_law__1268 : decode cL_law_ 1268 = .ok (.iadd, 1) := by decide +kernel
theorem dL_law__1269 : decode cL_law_ 1269 = .ok (.iaload, 1) := by decide +kernel
theorem dL_law__1270 : decode cL_law_ 1270 = .ok (.i2l, 1) := by decide +kernel
theorem dL_law__1271 : decode cL_law_ 1271 = .ok (.ldc2_w 178, 3) := by decide +kernel
theorem dL_law__1274 : decode cL_law_ 1274 = .ok (.land, 1) := by decide +kernel
theorem dL_law__1275 : decode cL_law_ 1275 = .ok (.lor, 1) := by decide +kernel
theorem dL_law__1276 : decode cL_law_ 1276 = .ok (.aload_n 0, 1) := by decide +kernel
theorem dL_law__1277 : decode cL_law_ 1277 = .ok (.iload 4, 2) := by decide +kernel
theorem dL_law__1279 : decode cL_law_ 1279 = .ok (.iconst 3, 1) := by decide +kernel
theorem dL_law__1280 : decode cL_law_ 1280 = .ok (.iadd, 1) := by decide +kernel
theorem dL_law__1281 : decode cL_law_ 1281 = .ok (.iaload, 1) := by decide +kernel
theorem dL_law__1282 : decode cL_law_ 1282 = .ok (.i2l, 1) := by decide +kernel
theorem dL_law__1283 : decode cL_law_ 1283 = .ok (.bipush 32, 2) := by decide +kernel
theorem dL_law__1285 : decode cL_law_ 1285 = .ok (.lshl, 1) := by decide +kernel
theorem dL_law__1286 : decode cL_law_ 1286 = .ok (.aload_n 0, 1) := by decide +kernel
theorem dL_law__1287 : decode cL_law_ 1287 = .ok (.iload 4, 2) := by decide +kernel
theorem dL_law__1289 : decode cL_law_ 1289 = .ok (.iconst 4, 1) := by decide +kernel
theorem dL_law__1290 : decode cL_law_ 1290 = .ok (.iadd, 1) := by decide +kernel
theorem dL_law__1291 : decode cL_law_ 1291 = .ok (.iaload, 1) := by decide +kernel
theorem dL_law__1292 : decode cL_law_ 1292 = .ok (.i2l, 1) := by decide +kernel
theorem dL_law__1293 : decode cL_law_ 1293 = .ok (.ldc2_w 178, 3) := by decide +kernel
theorem dL_law__1296 : decode cL_law_ 1296 = .ok (.land, 1) := by decide +kernel
theorem dL_law__1297 : decode cL_law_ 1297 = .ok (.lor, 1) := by decide +kernel
theorem dL_law__1298 : decode cL_law_ 1298 = .ok (.aload_n 3, 1) := by decide +kernel
theorem dL_law__1299 : decode cL_law_ 1299 = .ok (.invokestatic 206, 3) := by decide +kernel
theorem dL_law__1302 : decode cL_law_ 1302 = .ok (.istore 5, 2) := by decide +kernel
theorem dL_law__1304 : decode cL_law_ 1304 = .ok (.aload_n 2, 1) := by decide +kernel
theorem dL_law__1305 : decode cL_law_ 1305 = .ok (.aload_n 0, 1) := by decide +kernel
theorem dL_law__1306 : decode cL_law_ 1306 = .ok (.iload 4, 2) := by decide +kernel
theorem dL_law__1308 : decode cL_law_ 1308 = .ok (.iconst 1, 1) := by decide +kernel
theorem dL_law__1309 : decode cL_law_ 1309 = .ok (.iadd, 1) := by decide +kernel
theorem dL_law__1310 : decode cL_law_ 1310 = .ok (.iaload, 1) := by decide +kernel
theorem dL_law__1311 : decode cL_law_ 1311 = .ok (.i2l, 1) := by decide +kernel
theorem dL_law__1312 : decode cL_law_ 1312 = .ok (.bipush 32, 2) := by decide +kernel
theorem dL_law__1314 : decode cL_law_ 1314 = .ok (.lshl, 1) := by decide +kernel
theorem dL_law__1315 : decode cL_law_ 1315 = .ok (.aload_n 0, 1) := by decide +kernel
theorem dL_law__1316 : decode cL_law_ 1316 = .ok (.iload 4, 2) := by decide +kernel
theorem dL_law__1318 : decode cL_law_ 1318 = .ok (.iconst 2, 1) := by decide +kernel
theorem dL_law__1319 : decode cL_law_ 1319 = .ok (.iadd, 1) := by decide +kernel
theorem dL_law__1320 : decode cL_law_ 1320 = .ok (.iaload, 1) := by decide +kernel
theorem dL_law__1321 : decode cL_law_ 1321 = .ok (.i2l, 1) := by decide +kernel
theorem dL_law__1322 : decode cL_law_ 1322 = .ok (.ldc2_w 178, 3) := by decide +kernel
theorem dL_law__1325 : decode cL_law_ 1325 = .ok (.land, 1) := by decide +kernel
theorem dL_law__1326 : decode cL_law_ 1326 = .ok (.lor, 1) := by decide +kernel
theorem dL_law__1327 : decode cL_law_ 1327 = .ok (.aload_n 0, 1) := by decide +kernel
theorem dL_law__1328 : decode cL_law_ 1328 = .ok (.iload 4, 2) := by decide +kernel
theorem dL_law__1330 : decode cL_law_ 1330 = .ok (.iconst 3, 1) := by decide +kernel
theorem dL_law__1331 : decode cL_law_ 1331 = .ok (.iadd, 1) := by decide +kernel
theorem dL_law__1332 : decode cL_law_ 1332 = .ok (.iaload, 1) := by decide +kernel
theorem dL_law__1333 : decode cL_law_ 1333 = .ok (.i2l, 1) := by decide +kernel
theorem dL_law__1334 : decode cL_law_ 1334 = .ok (.bipush 32, 2) := by decide +kernel
theorem dL_law__1336 : decode cL_law_ 1336 = .ok (.lshl, 1) := by decide +kernel
theorem dL_law__1337 : decode cL_law_ 1337 = .ok (.aload_n 0, 1) := by decide +kernel
theorem dL_law__1338 : decode cL_law_ 1338 = .ok (.iload 4, 2) := by decide +kernel
theorem dL_law__1340 : decode cL_law_ 1340 = .ok (.iconst 4, 1) := by decide +kernel
theorem dL_law__1341 : decode cL_law_ 1341 = .ok (.iadd, 1) := by decide +kernel
theorem dL_law__1342 : decode cL_law_ 1342 = .ok (.iaload, 1) := by decide +kernel
theorem dL_law__1343 : decode cL_law_ 1343 = .ok (.i2l, 1) := by decide +kernel
theorem dL_law__1344 : decode cL_law_ 1344 = .ok (.ldc2_w 178, 3) := by decide +kernel
theorem dL_law__1347 : decode cL_law_ 1347 = .ok (.land, 1) := by decide +kernel
theorem dL_law__1348 : decode cL_law_ 1348 = .ok (.lor, 1) := by decide +kernel
theorem dL_law__1349 : decode cL_law_ 1349 = .ok (.invokevirtual 209, 3) := by decide +kernel
theorem dL_law__1352 : decode cL_law_ 1352 = .ok (.istore 6, 2) := by decide +kernel
theorem dL_law__1354 : decode cL_law_ 1354 = .ok (.aload_n 2, 1) := by decide +kernel
theorem dL_law__1355 : decode cL_law_ 1355 = .ok (.invokevirtual 157, 3) := by decide +kernel
theorem dL_law__1358 : decode cL_law_ 1358 = .ok (.iload 5, 2) := by decide +kernel
theorem dL_law__1360 : decode cL_law_ 1360 = .ok (.if_icmp .eq 5, 3) := by decide +kernel
theorem dL_law__1363 : decode cL_law_ 1363 = .ok (.iconst 0, 1) := by decide +kernel
theorem dL_law__1364 : decode cL_law_ 1364 = .ok (.ireturn, 1) := by decide +kernel
theorem dL_law__1365 : decode cL_law_ 1365 = .ok (.iload 5, 2) := by decide +kernel
theorem dL_law__1367 : decode cL_law_ 1367 = .ok (.ifCond .ne 15, 3) := by decide +kernel
theorem dL_law__1370 : decode cL_law_ 1370 = .ok (.aload_n 3, 1) := by decide +kernel
theorem dL_law__1371 : decode cL_law_ 1371 = .ok (.iconst 0, 1) := by decide +kernel
theorem dL_law__1372 : decode cL_law_ 1372 = .ok (.laload, 1) := by decide +kernel
theorem dL_law__1373 : decode cL_law_ 1373 = .ok (.iload 6, 2) := by decide +kernel
theorem dL_law__1375 : decode cL_law_ 1375 = .ok (.i2l, 1) := by decide +kernel
theorem dL_law__1376 : decode cL_law_ 1376 = .ok (.lcmp, 1) := by decide +kernel
theorem dL_law__1377 : decode cL_law_ 1377 = .ok (.ifCond .eq 5, 3) := by decide +kernel
theorem dL_law__1380 : decode cL_law_ 1380 = .ok (.iconst 0, 1) := by decide +kernel
theorem dL_law__1381 : decode cL_law_ 1381 = .ok (.ireturn, 1) := by decide +kernel
theorem dL_law__1382 : decode cL_law_ 1382 = .ok (.goto 1953, 3) := by decide +kernel
theorem dL_law__1385 : decode cL_law_ 1385 = .ok (.aload_n 1, 1) := by decide +kernel
theorem dL_law__1386 : decode cL_law_ 1386 = .ok (.aload_n 0, 1) := by decide +kernel
theorem dL_law__1387 : decode cL_law_ 1387 = .ok (.iload 4, 2) := by decide +kernel
theorem dL_law__1389 : decode cL_law_ 1389 = .ok (.iconst 1, 1) := by decide +kernel
theorem dL_law__1390 : decode cL_law_ 1390 = .ok (.iadd, 1) := by decide +kernel
theorem dL_law__1391 : decode cL_law_ 1391 = .ok (.iaload, 1) := by decide +kernel
theorem dL_law__1392 : decode cL_law_ 1392 = .ok (.aload_n 3, 1) := by decide +kernel
theorem dL_law__1393 : decode cL_law_ 1393 = .ok (.invokestatic 210, 3) := by decide +kernel
theorem dL_law__1396 : decode cL_law_ 1396 = .ok (.istore 5, 2) := by decide +kernel
theorem dL_law__1398 : decode cL_law_ 1398 = .ok (.aload_n 2, 1) := by decide +kernel
theorem dL_law__1399 : decode cL_law_ 1399 = .ok (.aload_n 0, 1) := by decide +kernel
theorem dL_law__1400 : decode cL_law_ 1400 = .ok (.iload 4, 2) := by decide +kernel
theorem dL_law__1402 : decode cL_law_ 1402 = .ok (.iconst 1, 1) := by decide +kernel
theorem dL_law__1403 : decode cL_law_ 1403 = .ok (.iadd, 1) := by decide +kernel
theorem dL_law__1404 : decode cL_law_ 1404 = .ok (.iaload, 1) := by decide +kernel
theorem dL_law__1405 : decode cL_law_ 1405 = .ok (.invokevirtual 212, 3) := by decide +kernel
theorem dL_law__1408 : decode cL_law_ 1408 = .ok (.istore 6, 2) := by decide +kernel
theorem dL_law__1410 : decode cL_law_ 1410 = .ok (.aload_n 2, 1) := by decide +kernel
theorem dL_law__1411 : decode cL_law_ 1411 = .ok (.invokevirtual 157, 3) := by decide +kernel
theorem dL_law__1414 : decode cL_law_ 1414 = .ok (.iload 5, 2) := by decide +kernel
theorem dL_law__1416 : decode cL_law_ 1416 = .ok (.if_icmp .eq 5, 3) := by decide +kernel
theorem dL_law__1419 : decode cL_law_ 1419 = .ok (.iconst 0, 1) := by decide +kernel
theorem dL_law__1420 : decode cL_law_ 1420 = .ok (.ireturn, 1) := by decide +kernel
theorem dL_law__1421 : decode cL_law_ 1421 = .ok (.iload 5, 2) := by decide +kernel
theorem dL_law__1423 : decode cL_law_ 1423 = .ok (.ifCond .ne 15, 3) := by decide +kernel
theorem dL_law__1426 : decode cL_law_ 1426 = .ok (.aload_n 3, 1) := by decide +kernel
theorem dL_law__1427 : decode cL_law_ 1427 = .ok (.iconst 0, 1) := by decide +kernel
theorem dL_law__1428 : decode cL_law_ 1428 = .ok (.laload, 1) := by decide +kernel
theorem dL_law__1429 : decode cL_law_ 1429 = .ok (.iload 6, 2) := by decide +kernel
theorem dL_law__1431 : decode cL_law_ 1431 = .ok (.i2l, 1) := by decide +kernel
theorem dL_law__1432 : decode cL_law_ 1432 = .ok (.lcmp, 1) := by decide +kernel
theorem dL_law__1433 : decode cL_law_ 1433 = .ok (.ifCond .eq 5, 3) := by decide +kernel
theorem dL_law__1436 : decode cL_law_ 1436 = .ok (.iconst 0, 1) := by decide +kernel
theorem dL_law__1437 : decode cL_law_ 1437 = .ok (.ireturn, 1) := by decide +kernel
theorem dL_law__1438 : decode cL_law_ 1438 = .ok (.goto 1897, 3) := by decide +kernel
theorem dL_law__1441 : decode cL_law_ 1441 = .ok (.aload_n 1, 1) := by decide +kernel
theorem dL_law__1442 : decode cL_law_ 1442 = .ok (.aload_n 0, 1) := by decide +kernel
theorem dL_law__1443 : decode cL_law_ 1443 = .ok (.iload 4, 2) := by decide +kernel
theorem dL_law__1445 : decode cL_law_ 1445 = .ok (.iconst 1, 1) := by decide +kernel
theorem dL_law__1446 : decode cL_law_ 1446 = .ok (.iadd, 1) := by decide +kernel
theorem dL_law__1447 : decode cL_law_ 1447 = .ok (.iaload, 1) := by decide +kernel
theorem dL_law__1448 : decode cL_law_ 1448 = .ok (.aload_n 0, 1) := by decide +kernel
theorem dL_law__1449 : decode cL_law_ 1449 = .ok (.iload 4, 2) := by decide +kernel
theorem dL_law__1451 : decode cL_law_ 1451 = .ok (.iconst 2, 1) := by decide +kernel
theorem dL_law__1452 : decode cL_law_ 1452 = .ok (.iadd, 1) := by decide +kernel
theorem dL_law__1453 : decode cL_law_ 1453 = .ok (.iaload, 1) := by decide +kernel
theorem dL_law__1454 : decode cL_law_ 1454 = .ok (.aload_n 3, 1) := by decide +kernel
theorem dL_law__1455 : decode cL_law_ 1455 = .ok (.invokestatic 213, 3) := by decide +kernel
theorem dL_law__1458 : decode cL_law_ 1458 = .ok (.istore 5, 2) := by decide +kernel
theorem dL_law__1460 : decode cL_law_ 1460 = .ok (.aload_n 2, 1) := by decide +kernel
theorem dL_law__1461 : decode cL_law_ 1461 = .ok (.aload_n 0, 1) := by decide +kernel
theorem dL_law__1462 : decode cL_law_ 1462 = .ok (.iload 4, 2) := by decide +kernel
theorem dL_law__1464 : decode cL_law_ 1464 = .ok (.iconst 1, 1) := by decide +kernel
theorem dL_law__1465 : decode cL_law_ 1465 = .ok (.iadd, 1) := by decide +kernel
theorem dL_law__1466 : decode cL_law_ 1466 = .ok (.iaload, 1) := by decide +kernel
theorem dL_law__1467 : decode cL_law_ 1467 = .ok (.aload_n 0, 1) := by decide +kernel
theorem dL_law__1468 : decode cL_law_ 1468 = .ok (.iload 4, 2) := by decide +kernel
theorem dL_law__1470 : decode cL_law_ 1470 = .ok (.iconst 2, 1) := by decide +kernel
theorem dL_law__1471 : decode cL_law_ 1471 = .ok (.iadd, 1) := by decide +kernel
theorem dL_law__1472 : decode cL_law_ 1472 = .ok (.iaload, 1) := by decide +kernel
theorem dL_law__1473 : decode cL_law_ 1473 = .ok (.invokevirtual 215, 3) := by decide +kernel
theorem dL_law__1476 : decode cL_law_ 1476 = .ok (.istore 6, 2) := by decide +kernel
theorem dL_law__1478 : decode cL_law_ 1478 = .ok (.aload_n 2, 1) := by decide +kernel
theorem dL_law__1479 : decode cL_law_ 1479 = .ok (.invokevirtual 157, 3) := by decide +kernel
theorem dL_law__1482 : decode cL_law_ 1482 = .ok (.iload 5, 2) := by decide +kernel
theorem dL_law__1484 : decode cL_law_ 1484 = .ok (.if_icmp .eq 5, 3) := by decide +kernel
theorem dL_law__1487 : decode cL_law_ 1487 = .ok (.iconst 0, 1) := by decide +kernel
theorem dL_law__1488 : decode cL_law_ 1488 = .ok (.ireturn, 1) := by decide +kernel
theorem dL_law__1489 : decode cL_law_ 1489 = .ok (.iload 5, 2) := by decide +kernel
theorem dL_law__1491 : decode cL_law_ 1491 = .ok (.ifCond .ne 15, 3) := by decide +kernel
theorem dL_law__1494 : decode cL_law_ 1494 = .ok (.aload_n 3, 1) := by decide +kernel
theorem dL_law__1495 : decode cL_law_ 1495 = .ok (.iconst 0, 1) := by decide +kernel
theorem dL_law__1496 : decode cL_law_ 1496 = .ok (.laload, 1) := by decide +kernel
theorem dL_law__1497 : decode cL_law_ 1497 = .ok (.iload 6, 2) := by decide +kernel
theorem dL_law__1499 : decode cL_law_ 1499 = .ok (.i2l, 1) := by decide +kernel
theorem dL_law__1500 : decode cL_law_ 1500 = .ok (.lcmp, 1) := by decide +kernel
theorem dL_law__1501 : decode cL_law_ 1501 = .ok (.ifCond .eq 5, 3) := by decide +kernel
theorem dL_law__1504 : decode cL_law_ 1504 = .ok (.iconst 0, 1) := by decide +kernel
theorem dL_law__1505 : decode cL_law_ 1505 = .ok (.ireturn, 1) := by decide +kernel
theorem dL_law__1506 : decode cL_law_ 1506 = .ok (.goto 1829, 3) := by decide +kernel
theorem dL_law__1509 : decode cL_law_ 1509 = .ok (.aload_n 1, 1) := by decide +kernel
theorem dL_law__1510 : decode cL_law_ 1510 = .ok (.aload_n 0, 1) := by decide +kernel
theorem dL_law__1511 : decode cL_law_ 1511 = .ok (.iload 4, 2) := by decide +kernel
theorem dL_law__1513 : decode cL_law_ 1513 = .ok (.iconst 1, 1) := by decide +kernel
theorem dL_law__1514 : decode cL_law_ 1514 = .ok (.iadd, 1) := by decide +kernel
theorem dL_law__1515 : decode cL_law_ 1515 = .ok (.iaload, 1) := by decide +kernel
theorem dL_law__1516 : decode cL_law_ 1516 = .ok (.i2l, 1) := by decide +kernel
theorem dL_law__1517 : decode cL_law_ 1517 = .ok (.bipush 32, 2) := by decide +kernel
theorem dL_law__1519 : decode cL_law_ 1519 = .ok (.lshl, 1) := by decide +kernel
theorem dL_law__1520 : decode cL_law_ 1520 = .ok (.aload_n 0, 1) := by decide +kernel
theorem dL_law__1521 : decode cL_law_ 1521 = .ok (.iload 4, 2) := by decide +kernel
theorem dL_law__1523 : decode cL_law_ 1523 = .ok (.iconst 2, 1) := by decide +kernel
theorem dL_law__1524 : decode cL_law_ 1524 = .ok (.iadd, 1) := by decide +kernel
theorem dL_law__1525 : decode cL_law_ 1525 = .ok (.iaload, 1) := by decide +kernel
theorem dL_law__1526 : decode cL_law_ 1526 = .ok (.i2l, 1) := by decide +kernel
theorem dL_law__1527 : decode cL_law_ 1527 = .ok (.ldc2_w 178, 3) := by decide +kernel
theorem dL_law__1530 : decode cL_law_ 1530 = .ok (.land, 1) := by decide +kernel
theorem dL_law__1531 : decode cL_law_ 1531 = .ok (.lor, 1) := by decide +kernel
theorem dL_law__1532 : decode cL_law_ 1532 = .ok (.aload_n 0, 1) := by decide +kernel
theorem dL_law__1533 : decode cL_law_ 1533 = .ok (.iload 4, 2) := by decide +kernel
theorem dL_law__1535 : decode cL_law_ 1535 = .ok (.iconst 3, 1) := by decide +kernel
theorem dL_law__1536 : decode cL_law_ 1536 = .ok (.iadd, 1) := by decide +kernel
theorem dL_law__1537 : decode cL_law_ 1537 = .ok (.iaload, 1) := by decide +kernel
theorem dL_law__1538 : decode cL_law_ 1538 = .ok (.aload_n 0, 1) := by decide +kernel
theorem dL_law__1539 : decode cL_law_ 1539 = .ok (.iload 4, 2) := by decide +kernel
theorem dL_law__1541 : decode cL_law_ 1541 = .ok (.iconst 4, 1) := by decide +kernel
theorem dL_law__1542 : decode cL_law_ 1542 = .ok (.iadd, 1) := by decide +kernel
theorem dL_law__1543 : decode cL_law_ 1543 = .ok (.iaload, 1) := by decide +kernel
theorem dL_law__1544 : decode cL_law_ 1544 = .ok (.ifCond .eq 7, 3) := by decide +kernel
theorem dL_law__1547 : decode cL_law_ 1547 = .ok (.iconst 1, 1) := by decide +kernel
theorem dL_law__1548 : decode cL_law_ 1548 = .ok (.goto 4, 3) := by decide +kernel
theorem dL_law__1551 : decode cL_law_ 1551 = .ok (.iconst 0, 1) := by decide +kernel
theorem dL_law__1552 : decode cL_law_ 1552 = .ok (.aload_n 3, 1) := by decide +kernel
theorem dL_law__1553 : decode cL_law_ 1553 = .ok (.invokestatic 216, 3) := by decide +kernel
theorem dL_law__1556 : decode cL_law_ 1556 = .ok (.istore 5, 2) := by decide +kernel
theorem dL_law__1558 : decode cL_law_ 1558 = .ok (.aload_n 2, 1) := by decide +kernel
theorem dL_law__1559 : decode cL_law_ 1559 = .ok (.aload_n 0, 1) := by decide +kernel
theorem dL_law__1560 : decode cL_law_ 1560 = .ok (.iload 4, 2) := by decide +kernel
theorem dL_law__1562 : decode cL_law_ 1562 = .ok (.iconst 1, 1) := by decide +kernel
theorem dL_law__1563 : decode cL_law_ 1563 = .ok (.iadd, 1) := by decide +kernel
theorem dL_law__1564 : decode cL_law_ 1564 = .ok (.iaload, 1) := by decide +kernel
theorem dL_law__1565 : decode cL_law_ 1565 = .ok (.i2l, 1) := by decide +kernel
theorem dL_law__1566 : decode cL_law_ 1566 = .ok (.bipush 32, 2) := by decide +kernel
theorem dL_law__1568 : decode cL_law_ 1568 = .ok (.lshl, 1) := by decide +kernel
theorem dL_law__1569 : decode cL_law_ 1569 = .ok (.aload_n 0, 1) := by decide +kernel
theorem dL_law__1570 : decode cL_law_ 1570 = .ok (.iload 4, 2) := by decide +kernel
theorem dL_law__1572 : decode cL_law_ 1572 = .ok (.iconst 2, 1) := by decide +kernel
theorem dL_law__1573 : decode cL_law_ 1573 = .ok (.iadd, 1) := by decide +kernel
theorem dL_law__1574 : decode cL_law_ 1574 = .ok (.iaload, 1) := by decide +kernel
theorem dL_law__1575 : decode cL_law_ 1575 = .ok (.i2l, 1) := by decide +kernel
theorem dL_law__1576 : decode cL_law_ 1576 = .ok (.ldc2_w 178, 3) := by decide +kernel
theorem dL_law__1579 : decode cL_law_ 1579 = .ok (.land, 1) := by decide +kernel
theorem dL_law__1580 : decode cL_law_ 1580 = .ok (.lor, 1) := by decide +kernel
theorem dL_law__1581 : decode cL_law_ 1581 = .ok (.aload_n 0, 1) := by decide +kernel
theorem dL_law__1582 : decode cL_law_ 1582 = .ok (.iload 4, 2) := by decide +kernel
theorem dL_law__1584 : decode cL_law_ 1584 = .ok (.iconst 3, 1) := by decide +kernel
theorem dL_law__1585 : decode cL_law_ 1585 = .ok (.iadd, 1) := by decide +kernel
theorem dL_law__1586 : decode cL_law_ 1586 = .ok (.iaload, 1) := by decide +kernel
theorem dL_law__1587 : decode cL_law_ 1587 = .ok (.aload_n 0, 1) := by decide +kernel
theorem dL_law__1588 : decode cL_law_ 1588 = .ok (.iload 4, 2) := by decide +kernel
theorem dL_law__1590 : decode cL_law_ 1590 = .ok (.iconst 4, 1) := by decide +kernel
theorem dL_law__1591 : decode cL_law_ 1591 = .ok (.iadd, 1) := by decide +kernel
theorem dL_law__1592 : decode cL_law_ 1592 = .ok (.iaload, 1) := by decide +kernel
theorem dL_law__1593 : decode cL_law_ 1593 = .ok (.ifCond .eq 7, 3) := by decide +kernel
theorem dL_law__1596 : decode cL_law_ 1596 = .ok (.iconst 1, 1) := by decide +kernel
theorem dL_law__1597 : decode cL_law_ 1597 = .ok (.goto 4, 3) := by decide +kernel
theorem dL_law__1600 : decode cL_law_ 1600 = .ok (.iconst 0, 1) := by decide +kernel
theorem dL_law__1601 : decode cL_law_ 1601 = .ok (.invokevirtual 219, 3) := by decide +kernel
theorem dL_law__1604 : decode cL_law_ 1604 = .ok (.lstore 6, 2) := by decide +kernel
theorem dL_law__1606 : decode cL_law_ 1606 = .ok (.aload_n 2, 1) := by decide +kernel
theorem dL_law__1607 : decode cL_law_ 1607 = .ok (.invokevirtual 157, 3) := by decide +kernel
theorem dL_law__1610 : decode cL_law_ 1610 = .ok (.iload 5, 2) := by decide +kernel
theorem dL_law__1612 : decode cL_law_ 1612 = .ok (.if_icmp .eq 5, 3) := by decide +kernel
theorem dL_law__1615 : decode cL_law_ 1615 = .ok (.iconst 0, 1) := by decide +kernel
theorem dL_law__1616 : decode cL_law_ 1616 = .ok (.ireturn, 1) := by decide +kernel
theorem dL_law__1617 : decode cL_law_ 1617 = .ok (.iload 5, 2) := by decide +kernel
theorem dL_law__1619 : decode cL_law_ 1619 = .ok (.ifCond .ne 14, 3) := by decide +kernel
theorem dL_law__1622 : decode cL_law_ 1622 = .ok (.aload_n 3, 1) := by decide +kernel
theorem dL_law__1623 : decode cL_law_ 1623 = .ok (.iconst 0, 1) := by decide +kernel
theorem dL_law__1624 : decode cL_law_ 1624 = .ok (.laload, 1) := by decide +kernel
theorem dL_law__1625 : decode cL_law_ 1625 = .ok (.lload 6, 2) := by decide +kernel
theorem dL_law__1627 : decode cL_law_ 1627 = .ok (.lcmp, 1) := by decide +kernel
theorem dL_law__1628 : decode cL_law_ 1628 = .ok (.ifCond .eq 5, 3) := by decide +kernel
theorem dL_law__1631 : decode cL_law_ 1631 = .ok (.iconst 0, 1) := by decide +kernel
theorem dL_law__1632 : decode cL_law_ 1632 = .ok (.ireturn, 1) := by decide +kernel
theorem dL_law__1633 : decode cL_law_ 1633 = .ok (.goto 1702, 3) := by decide +kernel
theorem dL_law__1636 : decode cL_law_ 1636 = .ok (.aload_n 1, 1) := by decide +kernel
theorem dL_law__1637 : decode cL_law_ 1637 = .ok (.aload_n 0, 1) := by decide +kernel
theorem dL_law__1638 : decode cL_law_ 1638 = .ok (.iload 4, 2) := by decide +kernel
theorem dL_law__1640 : decode cL_law_ 1640 = .ok (.iconst 1, 1) := by decide +kernel
theorem dL_law__1641 : decode cL_law_ 1641 = .ok (.iadd, 1) := by decide +kernel
theorem dL_law__1642 : decode cL_law_ 1642 = .ok (.iaload, 1) := by decide +kernel
theorem dL_law__1643 : decode cL_law_ 1643 = .ok (.i2l, 1) := by decide +kernel
theorem dL_law__1644 : decode cL_law_ 1644 = .ok (.bipush 32, 2) := by decide +kernel
theorem dL_law__1646 : decode cL_law_ 1646 = .ok (.lshl, 1) := by decide +kernel
theorem dL_law__1647 : decode cL_law_ 1647 = .ok (.aload_n 0, 1) := by decide +kernel
theorem dL_law__1648 : decode cL_law_ 1648 = .ok (.iload 4, 2) := by decide +kernel
theorem dL_law__1650 : decode cL_law_ 1650 = .ok (.iconst 2, 1) := by decide +kernel
theorem dL_law__1651 : decode cL_law_ 1651 = .ok (.iadd, 1) := by decide +kernel
theorem dL_law__1652 : decode cL_law_ 1652 = .ok (.iaload, 1) := by decide +kernel
theorem dL_law__1653 : decode cL_law_ 1653 = .ok (.i2l, 1) := by decide +kernel
theorem dL_law__1654 : decode cL_law_ 1654 = .ok (.ldc2_w 178, 3) := by decide +kernel
theorem dL_law__1657 : decode cL_law_ 1657 = .ok (.land, 1) := by decide +kernel
theorem dL_law__1658 : decode cL_law_ 1658 = .ok (.lor, 1) := by decide +kernel
theorem dL_law__1659 : decode cL_law_ 1659 = .ok (.aload_n 0, 1) := by decide +kernel
theorem dL_law__1660 : decode cL_law_ 1660 = .ok (.iload 4, 2) := by decide +kernel
theorem dL_law__1662 : decode cL_law_ 1662 = .ok (.iconst 3, 1) := by decide +kernel
theorem dL_law__1663 : decode cL_law_ 1663 = .ok (.iadd, 1) := by decide +kernel
theorem dL_law__1664 : decode cL_law_ 1664 = .ok (.iaload, 1) := by decide +kernel
theorem dL_law__1665 : decode cL_law_ 1665 = .ok (.ifCond .eq 7, 3) := by decide +kernel
theorem dL_law__1668 : decode cL_law_ 1668 = .ok (.iconst 1, 1) := by decide +kernel
theorem dL_law__1669 : decode cL_law_ 1669 = .ok (.goto 4, 3) := by decide +kernel
theorem dL_law__1672 : decode cL_law_ 1672 = .ok (.iconst 0, 1) := by decide +kernel
theorem dL_law__1673 : decode cL_law_ 1673 = .ok (.aload_n 3, 1) := by decide +kernel
theorem dL_law__1674 : decode cL_law_ 1674 = .ok (.invokestatic 220, 3) := by decide +kernel
theorem dL_law__1677 : decode cL_law_ 1677 = .ok (.istore 5, 2) := by decide +kernel
theorem dL_law__1679 : decode cL_law_ 1679 = .ok (.aload_n 2, 1) := by decide +kernel
theorem dL_law__1680 : decode cL_law_ 1680 = .ok (.aload_n 0, 1) := by decide +kernel
theorem dL_law__1681 : decode cL_law_ 1681 = .ok (.iload 4, 2) := by decide +kernel
theorem dL_law__1683 : decode cL_law_ 1683 = .ok (.iconst 1, 1) := by decide +kernel
theorem dL_law__1684 : decode cL_law_ 1684 = .ok (.iadd, 1) := by decide +kernel
theorem dL_law__1685 : decode cL_law_ 1685 = .ok (.iaload, 1) := by decide +kernel
theorem dL_law__1686 : decode cL_law_ 1686 = .ok (.i2l, 1) := by decide +kernel
theorem dL_law__1687 : decode cL_law_ 1687 = .ok (.bipush 32, 2) := by decide +kernel
theorem dL_law__1689 : decode cL_law_ 1689 = .ok (.lshl, 1) := by decide +kernel
theorem dL_law__1690 : decode cL_law_ 1690 = .ok (.aload_n 0, 1) := by decide +kernel
theorem dL_law__1691 : decode cL_law_ 1691 = .ok (.iload 4, 2) := by decide +kernel
theorem dL_law__1693 : decode cL_law_ 1693 = .ok (.iconst 2, 1) := by decide +kernel
theorem dL_law__1694 : decode cL_law_ 1694 = .ok (.iadd, 1) := by decide +kernel
theorem dL_law__1695 : decode cL_law_ 1695 = .ok (.iaload, 1) := by decide +kernel
theorem dL_law__1696 : decode cL_law_ 1696 = .ok (.i2l, 1) := by decide +kernel
theorem dL_law__1697 : decode cL_law_ 1697 = .ok (.ldc2_w 178, 3) := by decide +kernel
theorem dL_law__1700 : decode cL_law_ 1700 = .ok (.land, 1) := by decide +kernel
theorem dL_law__1701 : decode cL_law_ 1701 = .ok (.lor, 1) := by decide +kernel
theorem dL_law__1702 : decode cL_law_ 1702 = .ok (.aload_n 0, 1) := by decide +kernel
theorem dL_law__1703 : decode cL_law_ 1703 = .ok (.iload 4, 2) := by decide +kernel
theorem dL_law__1705 : decode cL_law_ 1705 = .ok (.iconst 3, 1) := by decide +kernel
theorem dL_law__1706 : decode cL_law_ 1706 = .ok (.iadd, 1) := by decide +kernel
theorem dL_law__1707 : decode cL_law_ 1707 = .ok (.iaload, 1) := by decide +kernel
theorem dL_law__1708 : decode cL_law_ 1708 = .ok (.ifCond .eq 7, 3) := by decide +kernel
theorem dL_law__1711 : decode cL_law_ 1711 = .ok (.iconst 1, 1) := by decide +kernel
theorem dL_law__1712 : decode cL_law_ 1712 = .ok (.goto 4, 3) := by decide +kernel
theorem dL_law__1715 : decode cL_law_ 1715 = .ok (.iconst 0, 1) := by decide +kernel
theorem dL_law__1716 : decode cL_law_ 1716 = .ok (.invokevirtual 223, 3) := by decide +kernel
theorem dL_law__1719 : decode cL_law_ 1719 = .ok (.istore 6, 2) := by decide +kernel
theorem dL_law__1721 : decode cL_law_ 1721 = .ok (.aload_n 2, 1) := by decide +kernel
theorem dL_law__1722 : decode cL_law_ 1722 = .ok (.invokevirtual 157, 3) := by decide +kernel
theorem dL_law__1725 : decode cL_law_ 1725 = .ok (.iload 5, 2) := by decide +kernel
theorem dL_law__1727 : decode cL_law_ 1727 = .ok (.if_icmp .eq 5, 3) := by decide +kernel
theorem dL_law__1730 : decode cL_law_ 1730 = .ok (.iconst 0, 1) := by decide +kernel
theorem dL_law__1731 : decode cL_law_ 1731 = .ok (.ireturn, 1) := by decide +kernel
theorem dL_law__1732 : decode cL_law_ 1732 = .ok (.iload 5, 2) := by decide +kernel
theorem dL_law__1734 : decode cL_law_ 1734 = .ok (.ifCond .ne 15, 3) := by decide +kernel
theorem dL_law__1737 : decode cL_law_ 1737 = .ok (.aload_n 3, 1) := by decide +kernel
theorem dL_law__1738 : decode cL_law_ 1738 = .ok (.iconst 0, 1) := by decide +kernel
theorem dL_law__1739 : decode cL_law_ 1739 = .ok (.laload, 1) := by decide +kernel
theorem dL_law__1740 : decode cL_law_ 1740 = .ok (.iload 6, 2) := by decide +kernel
theorem dL_law__1742 : decode cL_law_ 1742 = .ok (.i2l, 1) := by decide +kernel
theorem dL_law__1743 : decode cL_law_ 1743 = .ok (.lcmp, 1) := by decide +kernel
theorem dL_law__1744 : decode cL_law_ 1744 = .ok (.ifCond .eq 5, 3) := by decide +kernel
theorem dL_law__1747 : decode cL_law_ 1747 = .ok (.iconst 0, 1) := by decide +kernel
theorem dL_law__1748 : decode cL_law_ 1748 = .ok (.ireturn, 1) := by decide +kernel
theorem dL_law__1749 : decode cL_law_ 1749 = .ok (.goto 1586, 3) := by decide +kernel
theorem dL_law__1752 : decode cL_law_ 1752 = .ok (.aload_n 1, 1) := by decide +kernel
theorem dL_law__1753 : decode cL_law_ 1753 = .ok (.aload_n 0, 1) := by decide +kernel
theorem dL_law__1754 : decode cL_law_ 1754 = .ok (.iload 4, 2) := by decide +kernel
theorem dL_law__1756 : decode cL_law_ 1756 = .ok (.iconst 1, 1) := by decide +kernel
theorem dL_law__1757 : decode cL_law_ 1757 = .ok (.iadd, 1) := by decide +kernel
theorem dL_law__1758 : decode cL_law_ 1758 = .ok (.iaload, 1) := by decide +kernel
theorem dL_law__1759 : decode cL_law_ 1759 = .ok (.i2l, 1) := by decide +kernel
theorem dL_law__1760 : decode cL_law_ 1760 = .ok (.bipush 32, 2) := by decide +kernel
theorem dL_law__1762 : decode cL_law_ 1762 = .ok (.lshl, 1) := by decide +kernel
theorem dL_law__1763 : decode cL_law_ 1763 = .ok (.aload_n 0, 1) := by decide +kernel
theorem dL_law__1764 : decode cL_law_ 1764 = .ok (.iload 4, 2) := by decide +kernel
theorem dL_law__1766 : decode cL_law_ 1766 = .ok (.iconst 2, 1) := by decide +kernel
theorem dL_law__1767 : decode cL_law_ 1767 = .ok (.iadd, 1) := by decide +kernel
theorem dL_law__1768 : decode cL_law_ 1768 = .ok (.iaload, 1) := by decide +kernel
theorem dL_law__1769 : decode cL_law_ 1769 = .ok (.i2l, 1) := by decide +kernel
theorem dL_law__1770 : decode cL_law_ 1770 = .ok (.ldc2_w 178, 3) := by decide +kernel
theorem dL_law__1773 : decode cL_law_ 1773 = .ok (.land, 1) := by decide +kernel
theorem dL_law__1774 : decode cL_law_ 1774 = .ok (.lor, 1) := by decide +kernel
theorem dL_law__1775 : decode cL_law_ 1775 = .ok (.aload_n 0, 1) := by decide +kernel
theorem dL_law__1776 : decode cL_law_ 1776 = .ok (.iload 4, 2) := by decide +kernel
theorem dL_law__1778 : decode cL_law_ 1778 = .ok (.iconst 3, 1) := by decide +kernel
theorem dL_law__1779 : decode cL_law_ 1779 = .ok (.iadd, 1) := by decide +kernel
theorem dL_law__1780 : decode cL_law_ 1780 = .ok (.iaload, 1) := by decide +kernel
theorem dL_law__1781 : decode cL_law_ 1781 = .ok (.i2l, 1) := by decide +kernel
theorem dL_law__1782 : decode cL_law_ 1782 = .ok (.bipush 32, 2) := by decide +kernel
theorem dL_law__1784 : decode cL_law_ 1784 = .ok (.lshl, 1) := by decide +kernel
theorem dL_law__1785 : decode cL_law_ 1785 = .ok (.aload_n 0, 1) := by decide +kernel
theorem dL_law__1786 : decode cL_law_ 1786 = .ok (.iload 4, 2) := by decide +kernel
theorem dL_law__1788 : decode cL_law_ 1788 = .ok (.iconst 4, 1) := by decide +kernel
theorem dL_law__1789 : decode cL_law_ 1789 = .ok (.iadd, 1) := by decide +kernel
theorem dL_law__1790 : decode cL_law_ 1790 = .ok (.iaload, 1) := by decide +kernel
theorem dL_law__1791 : decode cL_law_ 1791 = .ok (.i2l, 1) := by decide +kernel
theorem dL_law__1792 : decode cL_law_ 1792 = .ok (.ldc2_w 178, 3) := by decide +kernel
theorem dL_law__1795 : decode cL_law_ 1795 = .ok (.land, 1) := by decide +kernel
theorem dL_law__1796 : decode cL_law_ 1796 = .ok (.lor, 1) := by decide +kernel
theorem dL_law__1797 : decode cL_law_ 1797 = .ok (.aload_n 3, 1) := by decide +kernel
theorem dL_law__1798 : decode cL_law_ 1798 = .ok (.invokestatic 224, 3) := by decide +kernel
theorem dL_law__1801 : decode cL_law_ 1801 = .ok (.istore 5, 2) := by decide +kernel
theorem dL_law__1803 : decode cL_law_ 1803 = .ok (.aload_n 2, 1) := by decide +kernel
theorem dL_law__1804 : decode cL_law_ 1804 = .ok (.aload_n 0, 1) := by decide +kernel
theorem dL_law__1805 : decode cL_law_ 1805 = .ok (.iload 4, 2) := by decide +kernel
theorem dL_law__1807 : decode cL_law_ 1807 = .ok (.iconst 1, 1) := by decide +kernel
theorem dL_law__1808 : decode cL_law_ 1808 = .ok (.iadd, 1) := by decide +kernel
theorem dL_law__1809 : decode cL_law_ 1809 = .ok (.iaload, 1) := by decide +kernel
theorem dL_law__1810 : decode cL_law_ 1810 = .ok (.i2l, 1) := by decide +kernel
theorem dL_law__1811 : decode cL_law_ 1811 = .ok (.bipush 32, 2) := by decide +kernel
theorem dL_law__1813 : decode cL_law_ 1813 = .ok (.lshl, 1) := by decide +kernel
theorem dL_law__1814 : decode cL_law_ 1814 = .ok (.aload_n 0, 1) := by decide +kernel
theorem dL_law__1815 : decode cL_law_ 1815 = .ok (.iload 4, 2) := by decide +kernel
theorem dL_law__1817 : decode cL_law_ 1817 = .ok (.iconst 2, 1) := by decide +kernel
theorem dL_law__1818 : decode cL_law_ 1818 = .ok (.iadd, 1) := by decide +kernel
theorem dL_law__1819 : decode cL_law_ 1819 = .ok (.iaload, 1) := by decide +kernel
theorem dL_law__1820 : decode cL_law_ 1820 = .ok (.i2l, 1) := by decide +kernel
theorem dL_law__1821 : decode cL_law_ 1821 = .ok (.ldc2_w 178, 3) := by decide +kernel
theorem dL_law__1824 : decode cL_law_ 1824 = .ok (.land, 1) := by decide +kernel
theorem dL_law__1825 : decode cL_law_ 1825 = .ok (.lor, 1) := by decide +kernel
theorem dL_law__1826 : decode cL_law_ 1826 = .ok (.aload_n 0, 1) := by decide +kernel
theorem dL_law__1827 : decode cL_law_ 1827 = .ok (.iload 4, 2) := by decide +kernel
theorem dL_law__1829 : decode cL_law_ 1829 = .ok (.iconst 3, 1) := by decide +kernel
theorem dL_law__1830 : decode cL_law_ 1830 = .ok (.iadd, 1) := by decide +kernel
theorem dL_law__1831 : decode cL_law_ 1831 = .ok (.iaload, 1) := by decide +kernel
theorem dL_law__1832 : decode cL_law_ 1832 = .ok (.i2l, 1) := by decide +kernel
theorem dL_law__1833 : decode cL_law_ 1833 = .ok (.bipush 32, 2) := by decide +kernel
theorem dL_law__1835 : decode cL_law_ 1835 = .ok (.lshl, 1) := by decide +kernel
theorem dL_law__1836 : decode cL_law_ 1836 = .ok (.aload_n 0, 1) := by decide +kernel
theorem dL_law__1837 : decode cL_law_ 1837 = .ok (.iload 4, 2) := by decide +kernel
theorem dL_law__1839 : decode cL_law_ 1839 = .ok (.iconst 4, 1) := by decide +kernel
theorem dL_law__1840 : decode cL_law_ 1840 = .ok (.iadd, 1) := by decide +kernel
theorem dL_law__1841 : decode cL_law_ 1841 = .ok (.iaload, 1) := by decide +kernel
theorem dL_law__1842 : decode cL_law_ 1842 = .ok (.i2l, 1) := by decide +kernel
theorem dL_law__1843 : decode cL_law_ 1843 = .ok (.ldc2_w 178, 3) := by decide +kernel
theorem dL_law__1846 : decode cL_law_ 1846 = .ok (.land, 1) := by decide +kernel
theorem dL_law__1847 : decode cL_law_ 1847 = .ok (.lor, 1) := by decide +kernel
theorem dL_law__1848 : decode cL_law_ 1848 = .ok (.invokevirtual 226, 3) := by decide +kernel
theorem dL_law__1851 : decode cL_law_ 1851 = .ok (.istore 6, 2) := by decide +kernel
theorem dL_law__1853 : decode cL_law_ 1853 = .ok (.aload_n 2, 1) := by decide +kernel
theorem dL_law__1854 : decode cL_law_ 1854 = .ok (.invokevirtual 157, 3) := by decide +kernel
theorem dL_law__1857 : decode cL_law_ 1857 = .ok (.iload 5, 2) := by decide +kernel
theorem dL_law__1859 : decode cL_law_ 1859 = .ok (.if_icmp .eq 5, 3) := by decide +kernel
theorem dL_law__1862 : decode cL_law_ 1862 = .ok (.iconst 0, 1) := by decide +kernel
theorem dL_law__1863 : decode cL_law_ 1863 = .ok (.ireturn, 1) := by decide +kernel
theorem dL_law__1864 : decode cL_law_ 1864 = .ok (.iload 5, 2) := by decide +kernel
theorem dL_law__1866 : decode cL_law_ 1866 = .ok (.ifCond .ne 22, 3) := by decide +kernel
theorem dL_law__1869 : decode cL_law_ 1869 = .ok (.aload_n 3, 1) := by decide +kernel
theorem dL_law__1870 : decode cL_law_ 1870 = .ok (.iconst 0, 1) := by decide +kernel
theorem dL_law__1871 : decode cL_law_ 1871 = .ok (.laload, 1) := by decide +kernel
theorem dL_law__1872 : decode cL_law_ 1872 = .ok (.iload 6, 2) := by decide +kernel
theorem dL_law__1874 : decode cL_law_ 1874 = .ok (.ifCond .eq 7, 3) := by decide +kernel
theorem dL_law__1877 : decode cL_law_ 1877 = .ok (.lconst 1, 1) := by decide +kernel
theorem dL_law__1878 : decode cL_law_ 1878 = .ok (.goto 4, 3) := by decide +kernel
theorem dL_law__1881 : decode cL_law_ 1881 = .ok (.lconst 0, 1) := by decide +kernel
theorem dL_law__1882 : decode cL_law_ 1882 = .ok (.lcmp, 1) := by decide +kernel
theorem dL_law__1883 : decode cL_law_ 1883 = .ok (.ifCond .eq 5, 3) := by decide +kernel
theorem dL_law__1886 : decode cL_law_ 1886 = .ok (.iconst 0, 1) := by decide +kernel
theorem dL_law__1887 : decode cL_law_ 1887 = .ok (.ireturn, 1) := by decide +kernel
theorem dL_law__1888 : decode cL_law_ 1888 = .ok (.goto 1447, 3) := by decide +kernel
theorem dL_law__1891 : decode cL_law_ 1891 = .ok (.aload_n 1, 1) := by decide +kernel
theorem dL_law__1892 : decode cL_law_ 1892 = .ok (.aload_n 0, 1) := by decide +kernel
theorem dL_law__1893 : decode cL_law_ 1893 = .ok (.iload 4, 2) := by decide +kernel
theorem dL_law__1895 : decode cL_law_ 1895 = .ok (.iconst 1, 1) := by decide +kernel
theorem dL_law__1896 : decode cL_law_ 1896 = .ok (.iadd, 1) := by decide +kernel
theorem dL_law__1897 : decode cL_law_ 1897 = .ok (.iaload, 1) := by decide +kernel
theorem dL_law__1898 : decode cL_law_ 1898 = .ok (.i2l, 1) := by decide +kernel
theorem dL_law__1899 : decode cL_law_ 1899 = .ok (.bipush 32, 2) := by decide +kernel
theorem dL_law__1901 : decode cL_law_ 1901 = .ok (.lshl, 1) := by decide +kernel
theorem dL_law__1902 : decode cL_law_ 1902 = .ok (.aload_n 0, 1) := by decide +kernel
theorem dL_law__1903 : decode cL_law_ 1903 = .ok (.iload 4, 2) := by decide +kernel
theorem dL_law__1905 : decode cL_law_ 1905 = .ok (.iconst 2, 1) := by decide +kernel
theorem dL_law__1906 : decode cL_law_ 1906 = .ok (.iadd, 1) := by decide +kernel
theorem dL_law__1907 : decode cL_law_ 1907 = .ok (.iaload, 1) := by decide +kernel
theorem dL_law__1908 : decode cL_law_ 1908 = .ok (.i2l, 1) := by decide +kernel
theorem dL_law__1909 : decode cL_law_ 1909 = .ok (.ldc2_w 178, 3) := by decide +kernel
theorem dL_law__1912 : decode cL_law_ 1912 = .ok (.land, 1) := by decide +kernel
theorem dL_law__1913 : decode cL_law_ 1913 = .ok (.lor, 1) := by decide +kernel
theorem dL_law__1914 : decode cL_law_ 1914 = .ok (.aload_n 0, 1) := by decide +kernel
theorem dL_law__1915 : decode cL_law_ 1915 = .ok (.iload 4, 2) := by decide +kernel
theorem dL_law__1917 : decode cL_law_ 1917 = .ok (.iconst 3, 1) := by decide +kernel
theorem dL_law__1918 : decode cL_law_ 1918 = .ok (.iadd, 1) := by decide +kernel
theorem dL_law__1919 : decode cL_law_ 1919 = .ok (.iaload, 1) := by decide +kernel
theorem dL_law__1920 : decode cL_law_ 1920 = .ok (.aload_n 0, 1) := by decide +kernel
theorem dL_law__1921 : decode cL_law_ 1921 = .ok (.iload 4, 2) := by decide +kernel
theorem dL_law__1923 : decode cL_law_ 1923 = .ok (.iconst 4, 1) := by decide +kernel
theorem dL_law__1924 : decode cL_law_ 1924 = .ok (.iadd, 1) := by decide +kernel
theorem dL_law__1925 : decode cL_law_ 1925 = .ok (.iaload, 1) := by decide +kernel
theorem dL_law__1926 : decode cL_law_ 1926 = .ok (.aload_n 3, 1) := by decide +kernel
theorem dL_law__1927 : decode cL_law_ 1927 = .ok (.invokestatic 227, 3) := by decide +kernel
theorem dL_law__1930 : decode cL_law_ 1930 = .ok (.istore 5, 2) := by decide +kernel
theorem dL_law__1932 : decode cL_law_ 1932 = .ok (.aload_n 2, 1) := by decide +kernel
theorem dL_law__1933 : decode cL_law_ 1933 = .ok (.aload_n 0, 1) := by decide +kernel
theorem dL_law__1934 : decode cL_law_ 1934 = .ok (.iload 4, 2) := by decide +kernel
theorem dL_law__1936 : decode cL_law_ 1936 = .ok (.iconst 1, 1) := by decide +kernel
theorem dL_law__1937 : decode cL_law_ 1937 = .ok (.iadd, 1) := by decide +kernel
theorem dL_law__1938 : decode cL_law_ 1938 = .ok (.iaload, 1) := by decide +kernel
theorem dL_law__1939 : decode cL_law_ 1939 = .ok (.i2l, 1) := by decide +kernel
theorem dL_law__1940 : decode cL_law_ 1940 = .ok (.bipush 32, 2) := by decide +kernel
theorem dL_law__1942 : decode cL_law_ 1942 = .ok (.lshl, 1) := by decide +kernel
theorem dL_law__1943 : decode cL_law_ 1943 = .ok (.aload_n 0, 1) := by decide +kernel
theorem dL_law__1944 : decode cL_law_ 1944 = .ok (.iload 4, 2) := by decide +kernel
theorem dL_law__1946 : decode cL_law_ 1946 = .ok (.iconst 2, 1) := by decide +kernel
theorem dL_law__1947 : decode cL_law_ 1947 = .ok (.iadd, 1) := by decide +kernel
theorem dL_law__1948 : decode cL_law_ 1948 = .ok (.iaload, 1) := by decide +kernel
theorem dL_law__1949 : decode cL_law_ 1949 = .ok (.i2l, 1) := by decide +kernel
theorem dL_law__1950 : decode cL_law_ 1950 = .ok (.ldc2_w 178, 3) := by decide +kernel
theorem dL_law__1953 : decode cL_law_ 1953 = .ok (.land, 1) := by decide +kernel
theorem dL_law__1954 : decode cL_law_ 1954 = .ok (.lor, 1) := by decide +kernel
theorem dL_law__1955 : decode cL_law_ 1955 = .ok (.aload_n 0, 1) := by decide +kernel
theorem dL_law__1956 : decode cL_law_ 1956 = .ok (.iload 4, 2) := by decide +kernel
theorem dL_law__1958 : decode cL_law_ 1958 = .ok (.iconst 3, 1) := by decide +kernel
theorem dL_law__1959 : decode cL_law_ 1959 = .ok (.iadd, 1) := by decide +kernel
theorem dL_law__1960 : decode cL_law_ 1960 = .ok (.iaload, 1) := by decide +kernel
theorem dL_law__1961 : decode cL_law_ 1961 = .ok (.aload_n 0, 1) := by decide +kernel
theorem dL_law__1962 : decode cL_law_ 1962 = .ok (.iload 4, 2) := by decide +kernel
theorem dL_law__1964 : decode cL_law_ 1964 = .ok (.iconst 4, 1) := by decide +kernel
theorem dL_law__1965 : decode cL_law_ 1965 = .ok (.iadd, 1) := by decide +kernel
theorem dL_law__1966 : decode cL_law_ 1966 = .ok (.iaload, 1) := by decide +kernel
theorem dL_law__1967 : decode cL_law_ 1967 = .ok (.invokevirtual 229, 3) := by decide +kernel
theorem dL_law__1970 : decode cL_law_ 1970 = .ok (.lstore 6, 2) := by decide +kernel
theorem dL_law__1972 : decode cL_law_ 1972 = .ok (.aload_n 2, 1) := by decide +kernel
theorem dL_law__1973 : decode cL_law_ 1973 = .ok (.invokevirtual 157, 3) := by decide +kernel
theorem dL_law__1976 : decode cL_law_ 1976 = .ok (.iload 5, 2) := by decide +kernel
theorem dL_law__1978 : decode cL_law_ 1978 = .ok (.if_icmp .eq 5, 3) := by decide +kernel
theorem dL_law__1981 : decode cL_law_ 1981 = .ok (.iconst 0, 1) := by decide +kernel
theorem dL_law__1982 : decode cL_law_ 1982 = .ok (.ireturn, 1) := by decide +kernel
theorem dL_law__1983 : decode cL_law_ 1983 = .ok (.iload 5, 2) := by decide +kernel
theorem dL_law__1985 : decode cL_law_ 1985 = .ok (.ifCond .ne 14, 3) := by decide +kernel
theorem dL_law__1988 : decode cL_law_ 1988 = .ok (.aload_n 3, 1) := by decide +kernel
theorem dL_law__1989 : decode cL_law_ 1989 = .ok (.iconst 0, 1) := by decide +kernel
theorem dL_law__1990 : decode cL_law_ 1990 = .ok (.laload, 1) := by decide +kernel
theorem dL_law__1991 : decode cL_law_ 1991 = .ok (.lload 6, 2) := by decide +kernel
theorem dL_law__1993 : decode cL_law_ 1993 = .ok (.lcmp, 1) := by decide +kernel
theorem dL_law__1994 : decode cL_law_ 1994 = .ok (.ifCond .eq 5, 3) := by decide +kernel
theorem dL_law__1997 : decode cL_law_ 1997 = .ok (.iconst 0, 1) := by decide +kernel
theorem dL_law__1998 : decode cL_law_ 1998 = .ok (.ireturn, 1) := by decide +kernel
theorem dL_law__1999 : decode cL_law_ 1999 = .ok (.goto 1336, 3) := by decide +kernel
theorem dL_law__2002 : decode cL_law_ 2002 = .ok (.aload_n 1, 1) := by decide +kernel
theorem dL_law__2003 : decode cL_law_ 2003 = .ok (.aload_n 0, 1) := by decide +kernel
theorem dL_law__2004 : decode cL_law_ 2004 = .ok (.iload 4, 2) := by decide +kernel
theorem dL_law__2006 : decode cL_law_ 2006 = .ok (.iconst 1, 1) := by decide +kernel
theorem dL_law__2007 : decode cL_law_ 2007 = .ok (.iadd, 1) := by decide +kernel
theorem dL_law__2008 : decode cL_law_ 2008 = .ok (.iaload, 1) := by decide +kernel
theorem dL_law__2009 : decode cL_law_ 2009 = .ok (.i2l, 1) := by decide +kernel
theorem dL_law__2010 : decode cL_law_ 2010 = .ok (.bipush 32, 2) := by decide +kernel
theorem dL_law__2012 : decode cL_law_ 2012 = .ok (.lshl, 1) := by decide +kernel
theorem dL_law__2013 : decode cL_law_ 2013 = .ok (.aload_n 0, 1) := by decide +kernel
theorem dL_law__2014 : decode cL_law_ 2014 = .ok (.iload 4, 2) := by decide +kernel
theorem dL_law__2016 : decode cL_law_ 2016 = .ok (.iconst 2, 1) := by decide +kernel
theorem dL_law__2017 : decode cL_law_ 2017 = .ok (.iadd, 1) := by decide +kernel
theorem dL_law__2018 : decode cL_law_ 2018 = .ok (.iaload, 1) := by decide +kernel
theorem dL_law__2019 : decode cL_law_ 2019 = .ok (.i2l, 1) := by decide +kernel
theorem dL_law__2020 : decode cL_law_ 2020 = .ok (.ldc2_w 178, 3) := by decide +kernel
theorem dL_law__2023 : decode cL_law_ 2023 = .ok (.land, 1) := by decide +kernel
theorem dL_law__2024 : decode cL_law_ 2024 = .ok (.lor, 1) := by decide +kernel
theorem dL_law__2025 : decode cL_law_ 2025 = .ok (.aload_n 0, 1) := by decide +kernel
theorem dL_law__2026 : decode cL_law_ 2026 = .ok (.iload 4, 2) := by decide +kernel
theorem dL_law__2028 : decode cL_law_ 2028 = .ok (.iconst 3, 1) := by decide +kernel
theorem dL_law__2029 : decode cL_law_ 2029 = .ok (.iadd, 1) := by decide +kernel
theorem dL_law__2030 : decode cL_law_ 2030 = .ok (.iaload, 1) := by decide +kernel
theorem dL_law__2031 : decode cL_law_ 2031 = .ok (.i2l, 1) := by decide +kernel
theorem dL_law__2032 : decode cL_law_ 2032 = .ok (.bipush 32, 2) := by decide +kernel
theorem dL_law__2034 : decode cL_law_ 2034 = .ok (.lshl, 1) := by decide +kernel
theorem dL_law__2035 : decode cL_law_ 2035 = .ok (.aload_n 0, 1) := by decide +kernel
theorem dL_law__2036 : decode cL_law_ 2036 = .ok (.iload 4, 2) := by decide +kernel
theorem dL_law__2038 : decode cL_law_ 2038 = .ok (.iconst 4, 1) := by decide +kernel
theorem dL_law__2039 : decode cL_law_ 2039 = .ok (.iadd, 1) := by decide +kernel
theorem dL_law__2040 : decode cL_law_ 2040 = .ok (.iaload, 1) := by decide +kernel
theorem dL_law__2041 : decode cL_law_ 2041 = .ok (.i2l, 1) := by decide +kernel
theorem dL_law__2042 : decode cL_law_ 2042 = .ok (.ldc2_w 178, 3) := by decide +kernel
theorem dL_law__2045 : decode cL_law_ 2045 = .ok (.land, 1) := by decide +kernel
theorem dL_law__2046 : decode cL_law_ 2046 = .ok (.lor, 1) := by decide +kernel
theorem dL_law__2047 : decode cL_law_ 2047 = .ok (.aload_n 3, 1) := by decide +kernel
theorem dL_law__2048 : decode cL_law_ 2048 = .ok (.invokestatic 230, 3) := by decide +kernel
theorem dL_law__2051 : decode cL_law_ 2051 = .ok (.istore 5, 2) := by decide +kernel
theorem dL_law__2053 : decode cL_law_ 2053 = .ok (.aload_n 2, 1) := by decide +kernel
theorem dL_law__2054 : decode cL_law_ 2054 = .ok (.aload_n 0, 1) := by decide +kernel
theorem dL_law__2055 : decode cL_law_ 2055 = .ok (.iload 4, 2) := by decide +kernel
theorem dL_law__2057 : decode cL_law_ 2057 = .ok (.iconst 1, 1) := by decide +kernel
theorem dL_law__2058 : decode cL_law_ 2058 = .ok (.iadd, 1) := by decide +kernel
theorem dL_law__2059 : decode cL_law_ 2059 = .ok (.iaload, 1) := by decide +kernel
theorem dL_law__2060 : decode cL_law_ 2060 = .ok (.i2l, 1) := by decide +kernel
theorem dL_law__2061 : decode cL_law_ 2061 = .ok (.bipush 32, 2) := by decide +kernel
theorem dL_law__2063 : decode cL_law_ 2063 = .ok (.lshl, 1) := by decide +kernel
theorem dL_law__2064 : decode cL_law_ 2064 = .ok (.aload_n 0, 1) := by decide +kernel
theorem dL_law__2065 : decode cL_law_ 2065 = .ok (.iload 4, 2) := by decide +kernel
theorem dL_law__2067 : decode cL_law_ 2067 = .ok (.iconst 2, 1) := by decide +kernel
theorem dL_law__2068 : decode cL_law_ 2068 = .ok (.iadd, 1) := by decide +kernel
theorem dL_law__2069 : decode cL_law_ 2069 = .ok (.iaload, 1) := by decide +kernel
theorem dL_law__2070 : decode cL_law_ 2070 = .ok (.i2l, 1) := by decide +kernel
theorem dL_law__2071 : decode cL_law_ 2071 = .ok (.ldc2_w 178, 3) := by decide +kernel
theorem dL_law__2074 : decode cL_law_ 2074 = .ok (.land, 1) := by decide +kernel
theorem dL_law__2075 : decode cL_law_ 2075 = .ok (.lor, 1) := by decide +kernel
theorem dL_law__2076 : decode cL_law_ 2076 = .ok (.aload_n 0, 1) := by decide +kernel
theorem dL_law__2077 : decode cL_law_ 2077 = .ok (.iload 4, 2) := by decide +kernel
theorem dL_law__2079 : decode cL_law_ 2079 = .ok (.iconst 3, 1) := by decide +kernel
theorem dL_law__2080 : decode cL_law_ 2080 = .ok (.iadd, 1) := by decide +kernel
theorem dL_law__2081 : decode cL_law_ 2081 = .ok (.iaload, 1) := by decide +kernel
theorem dL_law__2082 : decode cL_law_ 2082 = .ok (.i2l, 1) := by decide +kernel
theorem dL_law__2083 : decode cL_law_ 2083 = .ok (.bipush 32, 2) := by decide +kernel
theorem dL_law__2085 : decode cL_law_ 2085 = .ok (.lshl, 1) := by decide +kernel
theorem dL_law__2086 : decode cL_law_ 2086 = .ok (.aload_n 0, 1) := by decide +kernel
theorem dL_law__2087 : decode cL_law_ 2087 = .ok (.iload 4, 2) := by decide +kernel
theorem dL_law__2089 : decode cL_law_ 2089 = .ok (.iconst 4, 1) := by decide +kernel
theorem dL_law__2090 : decode cL_law_ 2090 = .ok (.iadd, 1) := by decide +kernel
theorem dL_law__2091 : decode cL_law_ 2091 = .ok (.iaload, 1) := by decide +kernel
theorem dL_law__2092 : decode cL_law_ 2092 = .ok (.i2l, 1) := by decide +kernel
theorem dL_law__2093 : decode cL_law_ 2093 = .ok (.ldc2_w 178, 3) := by decide +kernel
theorem dL_law__2096 : decode cL_law_ 2096 = .ok (.land, 1) := by decide +kernel
theorem dL_law__2097 : decode cL_law_ 2097 = .ok (.lor, 1) := by decide +kernel
theorem dL_law__2098 : decode cL_law_ 2098 = .ok (.invokevirtual 232, 3) := by decide +kernel
theorem dL_law__2101 : decode cL_law_ 2101 = .ok (.istore 6, 2) := by decide +kernel
theorem dL_law__2103 : decode cL_law_ 2103 = .ok (.aload_n 2, 1) := by decide +kernel
theorem dL_law__2104 : decode cL_law_ 2104 = .ok (.invokevirtual 157, 3) := by decide +kernel
theorem dL_law__2107 : decode cL_law_ 2107 = .ok (.iload 5, 2) := by decide +kernel
theorem dL_law__2109 : decode cL_law_ 2109 = .ok (.if_icmp .eq 5, 3) := by decide +kernel
theorem dL_law__2112 : decode cL_law_ 2112 = .ok (.iconst 0, 1) := by decide +kernel
theorem dL_law__2113 : decode cL_law_ 2113 = .ok (.ireturn, 1) := by decide +kernel
theorem dL_law__2114 : decode cL_law_ 2114 = .ok (.iload 5, 2) := by decide +kernel
theorem dL_law__2116 : decode cL_law_ 2116 = .ok (.ifCond .ne 15, 3) := by decide +kernel
theorem dL_law__2119 : decode cL_law_ 2119 = .ok (.aload_n 3, 1) := by decide +kernel
theorem dL_law__2120 : decode cL_law_ 2120 = .ok (.iconst 0, 1) := by decide +kernel
theorem dL_law__2121 : decode cL_law_ 2121 = .ok (.laload, 1) := by decide +kernel
theorem dL_law__2122 : decode cL_law_ 2122 = .ok (.iload 6, 2) := by decide +kernel
theorem dL_law__2124 : decode cL_law_ 2124 = .ok (.i2l, 1) := by decide +kernel
theorem dL_law__2125 : decode cL_law_ 2125 = .ok (.lcmp, 1) := by decide +kernel
theorem dL_law__2126 : decode cL_law_ 2126 = .ok (.ifCond .eq 5, 3) := by decide +kernel
theorem dL_law__2129 : decode cL_law_ 2129 = .ok (.iconst 0, 1) := by decide +kernel
theorem dL_law__2130 : decode cL_law_ 2130 = .ok (.ireturn, 1) := by decide +kernel
theorem dL_law__2131 : decode cL_law_ 2131 = .ok (.goto 1204, 3) := by decide +kernel
theorem dL_law__2134 : decode cL_law_ 2134 = .ok (.aload_n 1, 1) := by decide +kernel
theorem dL_law__2135 : decode cL_law_ 2135 = .ok (.aload_n 0, 1) := by decide +kernel
theorem dL_law__2136 : decode cL_law_ 2136 = .ok (.iload 4, 2) := by decide +kernel
theorem dL_law__2138 : decode cL_law_ 2138 = .ok (.iconst 1, 1) := by decide +kernel
theorem dL_law__2139 : decode cL_law_ 2139 = .ok (.iadd, 1) := by decide +kernel
theorem dL_law__2140 : decode cL_law_ 2140 = .ok (.iaload, 1) := by decide +kernel
theorem dL_law__2141 : decode cL_law_ 2141 = .ok (.i2l, 1) := by decide +kernel
theorem dL_law__2142 : decode cL_law_ 2142 = .ok (.bipush 32, 2) := by decide +kernel
theorem dL_law__2144 : decode cL_law_ 2144 = .ok (.lshl, 1) := by decide +kernel
theorem dL_law__2145 : decode cL_law_ 2145 = .ok (.aload_n 0, 1) := by decide +kernel
theorem dL_law__2146 : decode cL_law_ 2146 = .ok (.iload 4, 2) := by decide +kernel
theorem dL_law__2148 : decode cL_law_ 2148 = .ok (.iconst 2, 1) := by decide +kernel
theorem dL_law__2149 : decode cL_law_ 2149 = .ok (.iadd, 1) := by decide +kernel
theorem dL_law__2150 : decode cL_law_ 2150 = .ok (.iaload, 1) := by decide +kernel
theorem dL_law__2151 : decode cL_law_ 2151 = .ok (.i2l, 1) := by decide +kernel
theorem dL_law__2152 : decode cL_law_ 2152 = .ok (.ldc2_w 178, 3) := by decide +kernel
theorem dL_law__2155 : decode cL_law_ 2155 = .ok (.land, 1) := by decide +kernel
theorem dL_law__2156 : decode cL_law_ 2156 = .ok (.lor, 1) := by decide +kernel
theorem dL_law__2157 : decode cL_law_ 2157 = .ok (.aload_n 0, 1) := by decide +kernel
theorem dL_law__2158 : decode cL_law_ 2158 = .ok (.iload 4, 2) := by decide +kernel
theorem dL_law__2160 : decode cL_law_ 2160 = .ok (.iconst 3, 1) := by decide +kernel
theorem dL_law__2161 : decode cL_law_ 2161 = .ok (.iadd, 1) := by decide +kernel
theorem dL_law__2162 : decode cL_law_ 2162 = .ok (.iaload, 1) := by decide +kernel
theorem dL_law__2163 : decode cL_law_ 2163 = .ok (.i2l, 1) := by decide +kernel
theorem dL_law__2164 : decode cL_law_ 2164 = .ok (.bipush 32, 2) := by decide +kernel
theorem dL_law__2166 : decode cL_law_ 2166 = .ok (.lshl, 1) := by decide +kernel
theorem dL_law__2167 : decode cL_law_ 2167 = .ok (.aload_n 0, 1) := by decide +kernel
theorem dL_law__2168 : decode cL_law_ 2168 = .ok (.iload 4, 2) := by decide +kernel
theorem dL_law__2170 : decode cL_law_ 2170 = .ok (.iconst 4, 1) := by decide +kernel
theorem dL_law__2171 : decode cL_law_ 2171 = .ok (.iadd, 1) := by decide +kernel
theorem dL_law__2172 : decode cL_law_ 2172 = .ok (.iaload, 1) := by decide +kernel
theorem dL_law__2173 : decode cL_law_ 2173 = .ok (.i2l, 1) := by decide +kernel
theorem dL_law__2174 : decode cL_law_ 2174 = .ok (.ldc2_w 178, 3) := by decide +kernel
theorem dL_law__2177 : decode cL_law_ 2177 = .ok (.land, 1) := by decide +kernel
theorem dL_law__2178 : decode cL_law_ 2178 = .ok (.lor, 1) := by decide +kernel
theorem dL_law__2179 : decode cL_law_ 2179 = .ok (.aload_n 0, 1) := by decide +kernel
theorem dL_law__2180 : decode cL_law_ 2180 = .ok (.iload 4, 2) := by decide +kernel
theorem dL_law__2182 : decode cL_law_ 2182 = .ok (.iconst 5, 1) := by decide +kernel
theorem dL_law__2183 : decode cL_law_ 2183 = .ok (.iadd, 1) := by decide +kernel
theorem dL_law__2184 : decode cL_law_ 2184 = .ok (.iaload, 1) := by decide +kernel
theorem dL_law__2185 : decode cL_law_ 2185 = .ok (.aload_n 0, 1) := by decide +kernel
theorem dL_law__2186 : decode cL_law_ 2186 = .ok (.iload 4, 2) := by decide +kernel
theorem dL_law__2188 : decode cL_law_ 2188 = .ok (.bipush 6, 2) := by decide +kernel
theorem dL_law__2190 : decode cL_law_ 2190 = .ok (.iadd, 1) := by decide +kernel
theorem dL_law__2191 : decode cL_law_ 2191 = .ok (.iaload, 1) := by decide +kernel
theorem dL_law__2192 : decode cL_law_ 2192 = .ok (.ifCond .eq 7, 3) := by decide +kernel
theorem dL_law__2195 : decode cL_law_ 2195 = .ok (.iconst 1, 1) := by decide +kernel
theorem dL_law__2196 : decode cL_law_ 2196 = .ok (.goto 4, 3) := by decide +kernel
theorem dL_law__2199 : decode cL_law_ 2199 = .ok (.iconst 0, 1) := by decide +kernel
theorem dL_law__2200 : decode cL_law_ 2200 = .ok (.aload_n 3, 1) := by decide +kernel
theorem dL_law__2201 : decode cL_law_ 2201 = .ok (.invokestatic 233, 3) := by decide +kernel
theorem dL_law__2204 : decode cL_law_ 2204 = .ok (.istore 5, 2) := by decide +kernel
theorem dL_law__2206 : decode cL_law_ 2206 = .ok (.aload_n 2, 1) := by decide +kernel
theorem dL_law__2207 : decode cL_law_ 2207 = .ok (.aload_n 0, 1) := by decide +kernel
theorem dL_law__2208 : decode cL_law_ 2208 = .ok (.iload 4, 2) := by decide +kernel
theorem dL_law__2210 : decode cL_law_ 2210 = .ok (.iconst 1, 1) := by decide +kernel
theorem dL_law__2211 : decode cL_law_ 2211 = .ok (.iadd, 1) := by decide +kernel
theorem dL_law__2212 : decode cL_law_ 2212 = .ok (.iaload, 1) := by decide +kernel
theorem dL_law__2213 : decode cL_law_ 2213 = .ok (.i2l, 1) := by decide +kernel
theorem dL_law__2214 : decode cL_law_ 2214 = .ok (.bipush 32, 2) := by decide +kernel
theorem dL_law__2216 : decode cL_law_ 2216 = .ok (.lshl, 1) := by decide +kernel
theorem dL_law__2217 : decode cL_law_ 2217 = .ok (.aload_n 0, 1) := by decide +kernel
theorem dL_law__2218 : decode cL_law_ 2218 = .ok (.iload 4, 2) := by decide +kernel
theorem dL_law__2220 : decode cL_law_ 2220 = .ok (.iconst 2, 1) := by decide +kernel
theorem dL_law__2221 : decode cL_law_ 2221 = .ok (.iadd, 1) := by decide +kernel
theorem dL_law__2222 : decode cL_law_ 2222 = .ok (.iaload, 1) := by decide +kernel
theorem dL_law__2223 : decode cL_law_ 2223 = .ok (.i2l, 1) := by decide +kernel
theorem dL_law__2224 : decode cL_law_ 2224 = .ok (.ldc2_w 178, 3) := by decide +kernel
theorem dL_law__2227 : decode cL_law_ 2227 = .ok (.land, 1) := by decide +kernel
theorem dL_law__2228 : decode cL_law_ 2228 = .ok (.lor, 1) := by decide +kernel
theorem dL_law__2229 : decode cL_law_ 2229 = .ok (.aload_n 0, 1) := by decide +kernel
theorem dL_law__2230 : decode cL_law_ 2230 = .ok (.iload 4, 2) := by decide +kernel
theorem dL_law__2232 : decode cL_law_ 2232 = .ok (.iconst 3, 1) := by decide +kernel
theorem dL_law__2233 : decode cL_law_ 2233 = .ok (.iadd, 1) := by decide +kernel
theorem dL_law__2234 : decode cL_law_ 2234 = .ok (.iaload, 1) := by decide +kernel
theorem dL_law__2235 : decode cL_law_ 2235 = .ok (.i2l, 1) := by decide +kernel
theorem dL_law__2236 : decode cL_law_ 2236 = .ok (.bipush 32, 2) := by decide +kernel
theorem dL_law__2238 : decode cL_law_ 2238 = .ok (.lshl, 1) := by decide +kernel
theorem dL_law__2239 : decode cL_law_ 2239 = .ok (.aload_n 0, 1) := by decide +kernel
theorem dL_law__2240 : decode cL_law_ 2240 = .ok (.iload 4, 2) := by decide +kernel
theorem dL_law__2242 : decode cL_law_ 2242 = .ok (.iconst 4, 1) := by decide +kernel
theorem dL_law__2243 : decode cL_law_ 2243 = .ok (.iadd, 1) := by decide +kernel
theorem dL_law__2244 : decode cL_law_ 2244 = .ok (.iaload, 1) := by decide +kernel
theorem dL_law__2245 : decode cL_law_ 2245 = .ok (.i2l, 1) := by decide +kernel
theorem dL_law__2246 : decode cL_law_ 2246 = .ok (.ldc2_w 178, 3) := by decide +kernel
theorem dL_law__2249 : decode cL_law_ 2249 = .ok (.land, 1) := by decide +kernel
theorem dL_law__2250 : decode cL_law_ 2250 = .ok (.lor, 1) := by decide +kernel
theorem dL_law__2251 : decode cL_law_ 2251 = .ok (.aload_n 0, 1) := by decide +kernel
theorem dL_law__2252 : decode cL_law_ 2252 = .ok (.iload 4, 2) := by decide +kernel
theorem dL_law__2254 : decode cL_law_ 2254 = .ok (.iconst 5, 1) := by decide +kernel
theorem dL_law__2255 : decode cL_law_ 2255 = .ok (.iadd, 1) := by decide +kernel
theorem dL_law__2256 : decode cL_law_ 2256 = .ok (.iaload, 1) := by decide +kernel
theorem dL_law__2257 : decode cL_law_ 2257 = .ok (.aload_n 0, 1) := by decide +kernel
theorem dL_law__2258 : decode cL_law_ 2258 = .ok (.iload 4, 2) := by decide +kernel
theorem dL_law__2260 : decode cL_law_ 2260 = .ok (.bipush 6, 2) := by decide +kernel
theorem dL_law__2262 : decode cL_law_ 2262 = .ok (.iadd, 1) := by decide +kernel
theorem dL_law__2263 : decode cL_law_ 2263 = .ok (.iaload, 1) := by decide +kernel
theorem dL_law__2264 : decode cL_law_ 2264 = .ok (.ifCond .eq 7, 3) := by decide +kernel
theorem dL_law__2267 : decode cL_law_ 2267 = .ok (.iconst 1, 1) := by decide +kernel
theorem dL_law__2268 : decode cL_law_ 2268 = .ok (.goto 4, 3) := by decide +kernel
theorem dL_law__2271 : decode cL_law_ 2271 = .ok (.iconst 0, 1) := by decide +kernel
theorem dL_law__2272 : decode cL_law_ 2272 = .ok (.invokevirtual 236, 3) := by decide +kernel
theorem dL_law__2275 : decode cL_law_ 2275 = .ok (.lstore 6, 2) := by decide +kernel
theorem dL_law__2277 : decode cL_law_ 2277 = .ok (.aload_n 2, 1) := by decide +kernel
theorem dL_law__2278 : decode cL_law_ 2278 = .ok (.invokevirtual 157, 3) := by decide +kernel
theorem dL_law__2281 : decode cL_law_ 2281 = .ok (.iload 5, 2) := by decide +kernel
theorem dL_law__2283 : decode cL_law_ 2283 = .ok (.if_icmp .eq 5, 3) := by decide +kernel
theorem dL_law__2286 : decode cL_law_ 2286 = .ok (.iconst 0, 1) := by decide +kernel
theorem dL_law__2287 : decode cL_law_ 2287 = .ok (.ireturn, 1) := by decide +kernel
theorem dL_law__2288 : decode cL_law_ 2288 = .ok (.iload 5, 2) := by decide +kernel
theorem dL_law__2290 : decode cL_law_ 2290 = .ok (.ifCond .ne 14, 3) := by decide +kernel
theorem dL_law__2293 : decode cL_law_ 2293 = .ok (.aload_n 3, 1) := by decide +kernel
theorem dL_law__2294 : decode cL_law_ 2294 = .ok (.iconst 0, 1) := by decide +kernel
theorem dL_law__2295 : decode cL_law_ 2295 = .ok (.laload, 1) := by decide +kernel
theorem dL_law__2296 : decode cL_law_ 2296 = .ok (.lload 6, 2) := by decide +kernel
theorem dL_law__2298 : decode cL_law_ 2298 = .ok (.lcmp, 1) := by decide +kernel
theorem dL_law__2299 : decode cL_law_ 2299 = .ok (.ifCond .eq 5, 3) := by decide +kernel
theorem dL_law__2302 : decode cL_law_ 2302 = .ok (.iconst 0, 1) := by decide +kernel
theorem dL_law__2303 : decode cL_law_ 2303 = .ok (.ireturn, 1) := by decide +kernel
theorem dL_law__2304 : decode cL_law_ 2304 = .ok (.goto 1031, 3) := by decide +kernel
theorem dL_law__2307 : decode cL_law_ 2307 = .ok (.aload_n 1, 1) := by decide +kernel
theorem dL_law__2308 : decode cL_law_ 2308 = .ok (.aload_n 0, 1) := by decide +kernel
theorem dL_law__2309 : decode cL_law_ 2309 = .ok (.iload 4, 2) := by decide +kernel
theorem dL_law__2311 : decode cL_law_ 2311 = .ok (.iconst 1, 1) := by decide +kernel
theorem dL_law__2312 : decode cL_law_ 2312 = .ok (.iadd, 1) := by decide +kernel
theorem dL_law__2313 : decode cL_law_ 2313 = .ok (.iaload, 1) := by decide +kernel
theorem dL_law__2314 : decode cL_law_ 2314 = .ok (.aload_n 3, 1) := by decide +kernel
theorem dL_law__2315 : decode cL_law_ 2315 = .ok (.invokestatic 237, 3) := by decide +kernel
theorem dL_law__2318 : decode cL_law_ 2318 = .ok (.istore 5, 2) := by decide +kernel
theorem dL_law__2320 : decode cL_law_ 2320 = .ok (.aload_n 2, 1) := by decide +kernel
theorem dL_law__2321 : decode cL_law_ 2321 = .ok (.aload_n 0, 1) := by decide +kernel
theorem dL_law__2322 : decode cL_law_ 2322 = .ok (.iload 4, 2) := by decide +kernel
theorem dL_law__2324 : decode cL_law_ 2324 = .ok (.iconst 1, 1) := by decide +kernel
theorem dL_law__2325 : decode cL_law_ 2325 = .ok (.iadd, 1) := by decide +kernel
theorem dL_law__2326 : decode cL_law_ 2326 = .ok (.iaload, 1) := by decide +kernel
theorem dL_law__2327 : decode cL_law_ 2327 = .ok (.invokevirtual 239, 3) := by decide +kernel
theorem dL_law__2330 : decode cL_law_ 2330 = .ok (.lstore 6, 2) := by decide +kernel
theorem dL_law__2332 : decode cL_law_ 2332 = .ok (.aload_n 2, 1) := by decide +kernel
theorem dL_law__2333 : decode cL_law_ 2333 = .ok (.invokevirtual 157, 3) := by decide +kernel
theorem dL_law__2336 : decode cL_law_ 2336 = .ok (.iload 5, 2) := by decide +kernel
theorem dL_law__2338 : decode cL_law_ 2338 = .ok (.if_icmp .eq 5, 3) := by decide +kernel
theorem dL_law__2341 : decode cL_law_ 2341 = .ok (.iconst 0, 1) := by decide +kernel
theorem dL_law__2342 : decode cL_law_ 2342 = .ok (.ireturn, 1) := by decide +kernel
theorem dL_law__2343 : decode cL_law_ 2343 = .ok (.iload 5, 2) := by decide +kernel
theorem dL_law__2345 : decode cL_law_ 2345 = .ok (.ifCond .ne 14, 3) := by decide +kernel
theorem dL_law__2348 : decode cL_law_ 2348 = .ok (.aload_n 3, 1) := by decide +kernel
theorem dL_law__2349 : decode cL_law_ 2349 = .ok (.iconst 0, 1) := by decide +kernel
theorem dL_law__2350 : decode cL_law_ 2350 = .ok (.laload, 1) := by decide +kernel
theorem dL_law__2351 : decode cL_law_ 2351 = .ok (.lload 6, 2) := by decide +kernel
theorem dL_law__2353 : decode cL_law_ 2353 = .ok (.lcmp, 1) := by decide +kernel
theorem dL_law__2354 : decode cL_law_ 2354 = .ok (.ifCond .eq 5, 3) := by decide +kernel
theorem dL_law__2357 : decode cL_law_ 2357 = .ok (.iconst 0, 1) := by decide +kernel
theorem dL_law__2358 : decode cL_law_ 2358 = .ok (.ireturn, 1) := by decide +kernel
theorem dL_law__2359 : decode cL_law_ 2359 = .ok (.goto 976, 3) := by decide +kernel
theorem dL_law__2362 : decode cL_law_ 2362 = .ok (.aload_n 1, 1) := by decide +kernel
theorem dL_law__2363 : decode cL_law_ 2363 = .ok (.aload_n 3, 1) := by decide +kernel
theorem dL_law__2364 : decode cL_law_ 2364 = .ok (.invokestatic 240, 3) := by decide +kernel
theorem dL_law__2367 : decode cL_law_ 2367 = .ok (.istore 5, 2) := by decide +kernel
theorem dL_law__2369 : decode cL_law_ 2369 = .ok (.aload_n 2, 1) := by decide +kernel
theorem dL_law__2370 : decode cL_law_ 2370 = .ok (.invokevirtual 242, 3) := by decide +kernel
theorem dL_law__2373 : decode cL_law_ 2373 = .ok (.istore 6, 2) := by decide +kernel
theorem dL_law__2375 : decode cL_law_ 2375 = .ok (.aload_n 2, 1) := by decide +kernel
theorem dL_law__2376 : decode cL_law_ 2376 = .ok (.invokevirtual 157, 3) := by decide +kernel
theorem dL_law__2379 : decode cL_law_ 2379 = .ok (.iload 5, 2) := by decide +kernel
theorem dL_law__2381 : decode cL_law_ 2381 = .ok (.if_icmp .eq 5, 3) := by decide +kernel
theorem dL_law__2384 : decode cL_law_ 2384 = .ok (.iconst 0, 1) := by decide +kernel
theorem dL_law__2385 : decode cL_law_ 2385 = .ok (.ireturn, 1) := by decide +kernel
theorem dL_law__2386 : decode cL_law_ 2386 = .ok (.iload 5, 2) := by decide +kernel
theorem dL_law__2388 : decode cL_law_ 2388 = .ok (.ifCond .ne 15, 3) := by decide +kernel
theorem dL_law__2391 : decode cL_law_ 2391 = .ok (.aload_n 3, 1) := by decide +kernel
theorem dL_law__2392 : decode cL_law_ 2392 = .ok (.iconst 0, 1) := by decide +kernel
theorem dL_law__2393 : decode cL_law_ 2393 = .ok (.laload, 1) := by decide +kernel
theorem dL_law__2394 : decode cL_law_ 2394 = .ok (.iload 6, 2) := by decide +kernel
theorem dL_law__2396 : decode cL_law_ 2396 = .ok (.i2l, 1) := by decide +kernel
theorem dL_law__2397 : decode cL_law_ 2397 = .ok (.lcmp, 1) := by decide +kernel
theorem dL_law__2398 : decode cL_law_ 2398 = .ok (.ifCond .eq 5, 3) := by decide +kernel
theorem dL_law__2401 : decode cL_law_ 2401 = .ok (.iconst 0, 1) := by decide +kernel
theorem dL_law__2402 : decode cL_law_ 2402 = .ok (.ireturn, 1) := by decide +kernel
theorem dL_law__2403 : decode cL_law_ 2403 = .ok (.goto 932, 3) := by decide +kernel
theorem dL_law__2406 : decode cL_law_ 2406 = .ok (.aload_n 1, 1) := by decide +kernel
theorem dL_law__2407 : decode cL_law_ 2407 = .ok (.aload_n 0, 1) := by decide +kernel
theorem dL_law__2408 : decode cL_law_ 2408 = .ok (.iload 4, 2) := by decide +kernel
theorem dL_law__2410 : decode cL_law_ 2410 = .ok (.iconst 1, 1) := by decide +kernel
theorem dL_law__2411 : decode cL_law_ 2411 = .ok (.iadd, 1) := by decide +kernel
theorem dL_law__2412 : decode cL_law_ 2412 = .ok (.iaload, 1) := by decide +kernel
theorem dL_law__2413 : decode cL_law_ 2413 = .ok (.i2l, 1) := by decide +kernel
theorem dL_law__2414 : decode cL_law_ 2414 = .ok (.bipush 32, 2) := by decide +kernel
theorem dL_law__2416 : decode cL_law_ 2416 = .ok (.lshl, 1) := by decide +kernel
theorem dL_law__2417 : decode cL_law_ 2417 = .ok (.aload_n 0, 1) := by decide +kernel
theorem dL_law__2418 : decode cL_law_ 2418 = .ok (.iload 4, 2) := by decide +kernel
theorem dL_law__2420 : decode cL_law_ 2420 = .ok (.iconst 2, 1) := by decide +kernel
theorem dL_law__2421 : decode cL_law_ 2421 = .ok (.iadd, 1) := by decide +kernel
theorem dL_law__2422 : decode cL_law_ 2422 = .ok (.iaload, 1) := by decide +kernel
theorem dL_law__2423 : decode cL_law_ 2423 = .ok (.i2l, 1) := by decide +kernel
theorem dL_law__2424 : decode cL_law_ 2424 = .ok (.ldc2_w 178, 3) := by decide +kernel
theorem dL_law__2427 : decode cL_law_ 2427 = .ok (.land, 1) := by decide +kernel
theorem dL_law__2428 : decode cL_law_ 2428 = .ok (.lor, 1) := by decide +kernel
theorem dL_law__2429 : decode cL_law_ 2429 = .ok (.aload_n 0, 1) := by decide +kernel
theorem dL_law__2430 : decode cL_law_ 2430 = .ok (.iload 4, 2) := by decide +kernel
theorem dL_law__2432 : decode cL_law_ 2432 = .ok (.iconst 3, 1) := by decide +kernel
theorem dL_law__2433 : decode cL_law_ 2433 = .ok (.iadd, 1) := by decide +kernel
theorem dL_law__2434 : decode cL_law_ 2434 = .ok (.iaload, 1) := by decide +kernel
theorem dL_law__2435 : decode cL_law_ 2435 = .ok (.i2l, 1) := by decide +kernel
theorem dL_law__2436 : decode cL_law_ 2436 = .ok (.bipush 32, 2) := by decide +kernel
theorem dL_law__2438 : decode cL_law_ 2438 = .ok (.lshl, 1) := by decide +kernel
theorem dL_law__2439 : decode cL_law_ 2439 = .ok (.aload_n 0, 1) := by decide +kernel
theorem dL_law__2440 : decode cL_law_ 2440 = .ok (.iload 4, 2) := by decide +kernel
theorem dL_law__2442 : decode cL_law_ 2442 = .ok (.iconst 4, 1) := by decide +kernel
theorem dL_law__2443 : decode cL_law_ 2443 = .ok (.iadd, 1) := by decide +kernel
theorem dL_law__2444 : decode cL_law_ 2444 = .ok (.iaload, 1) := by decide +kernel
theorem dL_law__2445 : decode cL_law_ 2445 = .ok (.i2l, 1) := by decide +kernel
theorem dL_law__2446 : decode cL_law_ 2446 = .ok (.ldc2_w 178, 3) := by decide +kernel
theorem dL_law__2449 : decode cL_law_ 2449 = .ok (.land, 1) := by decide +kernel
theorem dL_law__2450 : decode cL_law_ 2450 = .ok (.lor, 1) := by decide +kernel
theorem dL_law__2451 : decode cL_law_ 2451 = .ok (.aload_n 0, 1) := by decide +kernel
theorem dL_law__2452 : decode cL_law_ 2452 = .ok (.iload 4, 2) := by decide +kernel
theorem dL_law__2454 : decode cL_law_ 2454 = .ok (.iconst 5, 1) := by decide +kernel
theorem dL_law__2455 : decode cL_law_ 2455 = .ok (.iadd, 1) := by decide +kernel
theorem dL_law__2456 : decode cL_law_ 2456 = .ok (.iaload, 1) := by decide +kernel
theorem dL_law__2457 : decode cL_law_ 2457 = .ok (.aload_n 3, 1) := by decide +kernel
theorem dL_law__2458 : decode cL_law_ 2458 = .ok (.invokestatic 243, 3) := by decide +kernel
theorem dL_law__2461 : decode cL_law_ 2461 = .ok (.istore 5, 2) := by decide +kernel
theorem dL_law__2463 : decode cL_law_ 2463 = .ok (.aload_n 2, 1) := by decide +kernel
theorem dL_law__2464 : decode cL_law_ 2464 = .ok (.aload_n 0, 1) := by decide +kernel
theorem dL_law__2465 : decode cL_law_ 2465 = .ok (.iload 4, 2) := by decide +kernel
theorem dL_law__2467 : decode cL_law_ 2467 = .ok (.iconst 1, 1) := by decide +kernel
theorem dL_law__2468 : decode cL_law_ 2468 = .ok (.iadd, 1) := by decide +kernel
theorem dL_law__2469 : decode cL_law_ 2469 = .ok (.iaload, 1) := by decide +kernel
theorem dL_law__2470 : decode cL_law_ 2470 = .ok (.i2l, 1) := by decide +kernel
theorem dL_law__2471 : decode cL_law_ 2471 = .ok (.bipush 32, 2) := by decide +kernel
theorem dL_law__2473 : decode cL_law_ 2473 = .ok (.lshl, 1) := by decide +kernel
theorem dL_law__2474 : decode cL_law_ 2474 = .ok (.aload_n 0, 1) := by decide +kernel
theorem dL_law__2475 : decode cL_law_ 2475 = .ok (.iload 4, 2) := by decide +kernel
theorem dL_law__2477 : decode cL_law_ 2477 = .ok (.iconst 2, 1) := by decide +kernel
theorem dL_law__2478 : decode cL_law_ 2478 = .ok (.iadd, 1) := by decide +kernel
theorem dL_law__2479 : decode cL_law_ 2479 = .ok (.iaload, 1) := by decide +kernel
theorem dL_law__2480 : decode cL_law_ 2480 = .ok (.i2l, 1) := by decide +kernel
theorem dL_law__2481 : decode cL_law_ 2481 = .ok (.ldc2_w 178, 3) := by decide +kernel
theorem dL_law__2484 : decode cL_law_ 2484 = .ok (.land, 1) := by decide +kernel
theorem dL_law__2485 : decode cL_law_ 2485 = .ok (.lor, 1) := by decide +kernel
theorem dL_law__2486 : decode cL_law_ 2486 = .ok (.aload_n 0, 1) := by decide +kernel
theorem dL_law__2487 : decode cL_law_ 2487 = .ok (.iload 4, 2) := by decide +kernel
theorem dL_law__2489 : decode cL_law_ 2489 = .ok (.iconst 3, 1) := by decide +kernel
theorem dL_law__2490 : decode cL_law_ 2490 = .ok (.iadd, 1) := by decide +kernel
theorem dL_law__2491 : decode cL_law_ 2491 = .ok (.iaload, 1) := by decide +kernel
theorem dL_law__2492 : decode cL_law_ 2492 = .ok (.i2l, 1) := by decide +kernel
theorem dL_law__2493 : decode cL_law_ 2493 = .ok (.bipush 32, 2) := by decide +kernel
theorem dL_law__2495 : decode cL_law_ 2495 = .ok (.lshl, 1) := by decide +kernel
theorem dL_law__2496 : decode cL_law_ 2496 = .ok (.aload_n 0, 1) := by decide +kernel
theorem dL_law__2497 : decode cL_law_ 2497 = .ok (.iload 4, 2) := by decide +kernel
theorem dL_law__2499 : decode cL_law_ 2499 = .ok (.iconst 4, 1) := by decide +kernel
theorem dL_law__2500 : decode cL_law_ 2500 = .ok (.iadd, 1) := by decide +kernel
theorem dL_law__2501 : decode cL_law_ 2501 = .ok (.iaload, 1) := by decide +kernel
theorem dL_law__2502 : decode cL_law_ 2502 = .ok (.i2l, 1) := by decide +kernel
theorem dL_law__2503 : decode cL_law_ 2503 = .ok (.ldc2_w 178, 3) := by decide +kernel
theorem dL_law__2506 : decode cL_law_ 2506 = .ok (.land, 1) := by decide +kernel
theorem dL_law__2507 : decode cL_law_ 2507 = .ok (.lor, 1) := by decide +kernel
theorem dL_law__2508 : decode cL_law_ 2508 = .ok (.aload_n 0, 1) := by decide +kernel
theorem dL_law__2509 : decode cL_law_ 2509 = .ok (.iload 4, 2) := by decide +kernel
theorem dL_law__2511 : decode cL_law_ 2511 = .ok (.iconst 5, 1) := by decide +kernel
theorem dL_law__2512 : decode cL_law_ 2512 = .ok (.iadd, 1) := by decide +kernel
theorem dL_law__2513 : decode cL_law_ 2513 = .ok (.iaload, 1) := by decide +kernel
theorem dL_law__2514 : decode cL_law_ 2514 = .ok (.invokevirtual 246, 3) := by decide +kernel
theorem dL_law__2517 : decode cL_law_ 2517 = .ok (.istore 6, 2) := by decide +kernel
theorem dL_law__2519 : decode cL_law_ 2519 = .ok (.aload_n 2, 1) := by decide +kernel
theorem dL_law__2520 : decode cL_law_ 2520 = .ok (.invokevirtual 157, 3) := by decide +kernel
theorem dL_law__2523 : decode cL_law_ 2523 = .ok (.iload 5, 2) := by decide +kernel
theorem dL_law__2525 : decode cL_law_ 2525 = .ok (.if_icmp .eq 5, 3) := by decide +kernel
theorem dL_law__2528 : decode cL_law_ 2528 = .ok (.iconst 0, 1) := by decide +kernel
theorem dL_law__2529 : decode cL_law_ 2529 = .ok (.ireturn, 1) := by decide +kernel
theorem dL_law__2530 : decode cL_law_ 2530 = .ok (.iload 5, 2) := by decide +kernel
theorem dL_law__2532 : decode cL_law_ 2532 = .ok (.ifCond .ne 15, 3) := by decide +kernel
theorem dL_law__2535 : decode cL_law_ 2535 = .ok (.aload_n 3, 1) := by decide +kernel
theorem dL_law__2536 : decode cL_law_ 2536 = .ok (.iconst 0, 1) := by decide +kernel
theorem dL_law__2537 : decode cL_law_ 2537 = .ok (.laload, 1) := by decide +kernel
theorem dL_law__2538 : decode cL_law_ 2538 = .ok (.iload 6, 2) := by decide +kernel
theorem dL_law__2540 : decode cL_law_ 2540 = .ok (.i2l, 1) := by decide +kernel
theorem dL_law__2541 : decode cL_law_ 2541 = .ok (.lcmp, 1) := by decide +kernel
theorem dL_law__2542 : decode cL_law_ 2542 = .ok (.ifCond .eq 5, 3) := by decide +kernel
theorem dL_law__2545 : decode cL_law_ 2545 = .ok (.iconst 0, 1) := by decide +kernel
theorem dL_law__2546 : decode cL_law_ 2546 = .ok (.ireturn, 1) := by decide +kernel
theorem dL_law__2547 : decode cL_law_ 2547 = .ok (.goto 788, 3) := by decide +kernel
theorem dL_law__2550 : decode cL_law_ 2550 = .ok (.aload_n 1, 1) := by decide +kernel
theorem dL_law__2551 : decode cL_law_ 2551 = .ok (.aload_n 0, 1) := by decide +kernel
theorem dL_law__2552 : decode cL_law_ 2552 = .ok (.iload 4, 2) := by decide +kernel
theorem dL_law__2554 : decode cL_law_ 2554 = .ok (.iconst 1, 1) := by decide +kernel
theorem dL_law__2555 : decode cL_law_ 2555 = .ok (.iadd, 1) := by decide +kernel
theorem dL_law__2556 : decode cL_law_ 2556 = .ok (.iaload, 1) := by decide +kernel
theorem dL_law__2557 : decode cL_law_ 2557 = .ok (.aload_n 0, 1) := by decide +kernel
theorem dL_law__2558 : decode cL_law_ 2558 = .ok (.iload 4, 2) := by decide +kernel
theorem dL_law__2560 : decode cL_law_ 2560 = .ok (.iconst 2, 1) := by decide +kernel
theorem dL_law__2561 : decode cL_law_ 2561 = .ok (.iadd, 1) := by decide +kernel
theorem dL_law__2562 : decode cL_law_ 2562 = .ok (.iaload, 1) := by decide +kernel
theorem dL_law__2563 : decode cL_law_ 2563 = .ok (.aload_n 3, 1) := by decide +kernel
theorem dL_law__2564 : decode cL_law_ 2564 = .ok (.invokestatic 247, 3) := by decide +kernel
theorem dL_law__2567 : decode cL_law_ 2567 = .ok (.istore 5, 2) := by decide +kernel
theorem dL_law__2569 : decode cL_law_ 2569 = .ok (.aload_n 2, 1) := by decide +kernel
theorem dL_law__2570 : decode cL_law_ 2570 = .ok (.aload_n 0, 1) := by decide +kernel
theorem dL_law__2571 : decode cL_law_ 2571 = .ok (.iload 4, 2) := by decide +kernel
theorem dL_law__2573 : decode cL_law_ 2573 = .ok (.iconst 1, 1) := by decide +kernel
theorem dL_law__2574 : decode cL_law_ 2574 = .ok (.iadd, 1) := by decide +kernel
theorem dL_law__2575 : decode cL_law_ 2575 = .ok (.iaload, 1) := by decide +kernel
theorem dL_law__2576 : decode cL_law_ 2576 = .ok (.aload_n 0, 1) := by decide +kernel
theorem dL_law__2577 : decode cL_law_ 2577 = .ok (.iload 4, 2) := by decide +kernel
theorem dL_law__2579 : decode cL_law_ 2579 = .ok (.iconst 2, 1) := by decide +kernel
theorem dL_law__2580 : decode cL_law_ 2580 = .ok (.iadd, 1) := by decide +kernel
theorem dL_law__2581 : decode cL_law_ 2581 = .ok (.iaload, 1) := by decide +kernel
theorem dL_law__2582 : decode cL_law_ 2582 = .ok (.invokevirtual 249, 3) := by decide +kernel
theorem dL_law__2585 : decode cL_law_ 2585 = .ok (.istore 6, 2) := by decide +kernel
theorem dL_law__2587 : decode cL_law_ 2587 = .ok (.aload_n 2, 1) := by decide +kernel
theorem dL_law__2588 : decode cL_law_ 2588 = .ok (.invokevirtual 157, 3) := by decide +kernel
theorem dL_law__2591 : decode cL_law_ 2591 = .ok (.iload 5, 2) := by decide +kernel
theorem dL_law__2593 : decode cL_law_ 2593 = .ok (.if_icmp .eq 5, 3) := by decide +kernel
theorem dL_law__2596 : decode cL_law_ 2596 = .ok (.iconst 0, 1) := by decide +kernel
theorem dL_law__2597 : decode cL_law_ 2597 = .ok (.ireturn, 1) := by decide +kernel
theorem dL_law__2598 : decode cL_law_ 2598 = .ok (.iload 5, 2) := by decide +kernel
theorem dL_law__2600 : decode cL_law_ 2600 = .ok (.ifCond .ne 15, 3) := by decide +kernel
theorem dL_law__2603 : decode cL_law_ 2603 = .ok (.aload_n 3, 1) := by decide +kernel
theorem dL_law__2604 : decode cL_law_ 2604 = .ok (.iconst 0, 1) := by decide +kernel
theorem dL_law__2605 : decode cL_law_ 2605 = .ok (.laload, 1) := by decide +kernel
theorem dL_law__2606 : decode cL_law_ 2606 = .ok (.iload 6, 2) := by decide +kernel
theorem dL_law__2608 : decode cL_law_ 2608 = .ok (.i2l, 1) := by decide +kernel
theorem dL_law__2609 : decode cL_law_ 2609 = .ok (.lcmp, 1) := by decide +kernel
theorem dL_law__2610 : decode cL_law_ 2610 = .ok (.ifCond .eq 5, 3) := by decide +kernel
theorem dL_law__2613 : decode cL_law_ 2613 = .ok (.iconst 0, 1) := by decide +kernel
theorem dL_law__2614 : decode cL_law_ 2614 = .ok (.ireturn, 1) := by decide +kernel
theorem dL_law__2615 : decode cL_law_ 2615 = .ok (.goto 720, 3) := by decide +kernel
theorem dL_law__2618 : decode cL_law_ 2618 = .ok (.aload_n 1, 1) := by decide +kernel
theorem dL_law__2619 : decode cL_law_ 2619 = .ok (.aload_n 0, 1) := by decide +kernel
theorem dL_law__2620 : decode cL_law_ 2620 = .ok (.iload 4, 2) := by decide +kernel
theorem dL_law__2622 : decode cL_law_ 2622 = .ok (.iconst 1, 1) := by decide +kernel
theorem dL_law__2623 : decode cL_law_ 2623 = .ok (.iadd, 1) := by decide +kernel
theorem dL_law__2624 : decode cL_law_ 2624 = .ok (.iaload, 1) := by decide +kernel
theorem dL_law__2625 : decode cL_law_ 2625 = .ok (.i2l, 1) := by decide +kernel
theorem dL_law__2626 : decode cL_law_ 2626 = .ok (.bipush 32, 2) := by decide +kernel
theorem dL_law__2628 : decode cL_law_ 2628 = .ok (.lshl, 1) := by decide +kernel
theorem dL_law__2629 : decode cL_law_ 2629 = .ok (.aload_n 0, 1) := by decide +kernel
theorem dL_law__2630 : decode cL_law_ 2630 = .ok (.iload 4, 2) := by decide +kernel
theorem dL_law__2632 : decode cL_law_ 2632 = .ok (.iconst 2, 1) := by decide +kernel
theorem dL_law__2633 : decode cL_law_ 2633 = .ok (.iadd, 1) := by decide +kernel
theorem dL_law__2634 : decode cL_law_ 2634 = .ok (.iaload, 1) := by decide +kernel
theorem dL_law__2635 : decode cL_law_ 2635 = .ok (.i2l, 1) := by decide +kernel
theorem dL_law__2636 : decode cL_law_ 2636 = .ok (.ldc2_w 178, 3) := by decide +kernel
theorem dL_law__2639 : decode cL_law_ 2639 = .ok (.land, 1) := by decide +kernel
theorem dL_law__2640 : decode cL_law_ 2640 = .ok (.lor, 1) := by decide +kernel
theorem dL_law__2641 : decode cL_law_ 2641 = .ok (.aload_n 3, 1) := by decide +kernel
theorem dL_law__2642 : decode cL_law_ 2642 = .ok (.invokestatic 250, 3) := by decide +kernel
theorem dL_law__2645 : decode cL_law_ 2645 = .ok (.istore 5, 2) := by decide +kernel
theorem dL_law__2647 : decode cL_law_ 2647 = .ok (.aload_n 2, 1) := by decide +kernel
theorem dL_law__2648 : decode cL_law_ 2648 = .ok (.aload_n 0, 1) := by decide +kernel
theorem dL_law__2649 : decode cL_law_ 2649 = .ok (.iload 4, 2) := by decide +kernel
theorem dL_law__2651 : decode cL_law_ 2651 = .ok (.iconst 1, 1) := by decide +kernel
theorem dL_law__2652 : decode cL_law_ 2652 = .ok (.iadd, 1) := by decide +kernel
theorem dL_law__2653 : decode cL_law_ 2653 = .ok (.iaload, 1) := by decide +kernel
theorem dL_law__2654 : decode cL_law_ 2654 = .ok (.i2l, 1) := by decide +kernel
theorem dL_law__2655 : decode cL_law_ 2655 = .ok (.bipush 32, 2) := by decide +kernel
theorem dL_law__2657 : decode cL_law_ 2657 = .ok (.lshl, 1) := by decide +kernel
theorem dL_law__2658 : decode cL_law_ 2658 = .ok (.aload_n 0, 1) := by decide +kernel
theorem dL_law__2659 : decode cL_law_ 2659 = .ok (.iload 4, 2) := by decide +kernel
theorem dL_law__2661 : decode cL_law_ 2661 = .ok (.iconst 2, 1) := by decide +kernel
theorem dL_law__2662 : decode cL_law_ 2662 = .ok (.iadd, 1) := by decide +kernel
theorem dL_law__2663 : decode cL_law_ 2663 = .ok (.iaload, 1) := by decide +kernel
theorem dL_law__2664 : decode cL_law_ 2664 = .ok (.i2l, 1) := by decide +kernel
theorem dL_law__2665 : decode cL_law_ 2665 = .ok (.ldc2_w 178, 3) := by decide +kernel
theorem dL_law__2668 : decode cL_law_ 2668 = .ok (.land, 1) := by decide +kernel
theorem dL_law__2669 : decode cL_law_ 2669 = .ok (.lor, 1) := by decide +kernel
theorem dL_law__2670 : decode cL_law_ 2670 = .ok (.invokevirtual 253, 3) := by decide +kernel
theorem dL_law__2673 : decode cL_law_ 2673 = .ok (.istore 6, 2) := by decide +kernel
theorem dL_law__2675 : decode cL_law_ 2675 = .ok (.aload_n 2, 1) := by decide +kernel
theorem dL_law__2676 : decode cL_law_ 2676 = .ok (.invokevirtual 157, 3) := by decide +kernel
theorem dL_law__2679 : decode cL_law_ 2679 = .ok (.iload 5, 2) := by decide +kernel
theorem dL_law__2681 : decode cL_law_ 2681 = .ok (.if_icmp .eq 5, 3) := by decide +kernel
theorem dL_law__2684 : decode cL_law_ 2684 = .ok (.iconst 0, 1) := by decide +kernel
theorem dL_law__2685 : decode cL_law_ 2685 = .ok (.ireturn, 1) := by decide +kernel
theorem dL_law__2686 : decode cL_law_ 2686 = .ok (.iload 5, 2) := by decide +kernel
theorem dL_law__2688 : decode cL_law_ 2688 = .ok (.ifCond .ne 15, 3) := by decide +kernel
theorem dL_law__2691 : decode cL_law_ 2691 = .ok (.aload_n 3, 1) := by decide +kernel
theorem dL_law__2692 : decode cL_law_ 2692 = .ok (.iconst 0, 1) := by decide +kernel
theorem dL_law__2693 : decode cL_law_ 2693 = .ok (.laload, 1) := by decide +kernel
theorem dL_law__2694 : decode cL_law_ 2694 = .ok (.iload 6, 2) := by decide +kernel
theorem dL_law__2696 : decode cL_law_ 2696 = .ok (.i2l, 1) := by decide +kernel
theorem dL_law__2697 : decode cL_law_ 2697 = .ok (.lcmp, 1) := by decide +kernel
theorem dL_law__2698 : decode cL_law_ 2698 = .ok (.ifCond .eq 5, 3) := by decide +kernel
theorem dL_law__2701 : decode cL_law_ 2701 = .ok (.iconst 0, 1) := by decide +kernel
theorem dL_law__2702 : decode cL_law_ 2702 = .ok (.ireturn, 1) := by decide +kernel
theorem dL_law__2703 : decode cL_law_ 2703 = .ok (.goto 632, 3) := by decide +kernel
theorem dL_law__2706 : decode cL_law_ 2706 = .ok (.aload_n 1, 1) := by decide +kernel
theorem dL_law__2707 : decode cL_law_ 2707 = .ok (.aload_n 0, 1) := by decide +kernel
theorem dL_law__2708 : decode cL_law_ 2708 = .ok (.iload 4, 2) := by decide +kernel
theorem dL_law__2710 : decode cL_law_ 2710 = .ok (.iconst 1, 1) := by decide +kernel
theorem dL_law__2711 : decode cL_law_ 2711 = .ok (.iadd, 1) := by decide +kernel
theorem dL_law__2712 : decode cL_law_ 2712 = .ok (.iaload, 1) := by decide +kernel
theorem dL_law__2713 : decode cL_law_ 2713 = .ok (.aload_n 3, 1) := by decide +kernel
theorem dL_law__2714 : decode cL_law_ 2714 = .ok (.invokestatic 254, 3) := by decide +kernel
theorem dL_law__2717 : decode cL_law_ 2717 = .ok (.istore 5, 2) := by decide +kernel
theorem dL_law__2719 : decode cL_law_ 2719 = .ok (.aload_n 2, 1) := by decide +kernel
theorem dL_law__2720 : decode cL_law_ 2720 = .ok (.aload_n 0, 1) := by decide +kernel
theorem dL_law__2721 : decode cL_law_ 2721 = .ok (.iload 4, 2) := by decide +kernel
theorem dL_law__2723 : decode cL_law_ 2723 = .ok (.iconst 1, 1) := by decide +kernel
theorem dL_law__2724 : decode cL_law_ 2724 = .ok (.iadd, 1) := by decide +kernel
theorem dL_law__2725 : decode cL_law_ 2725 = .ok (.iaload, 1) := by decide +kernel
theorem dL_law__2726 : decode cL_law_ 2726 = .ok (.invokevirtual 256, 3) := by decide +kernel
theorem dL_law__2729 : decode cL_law_ 2729 = .ok (.istore 6, 2) := by decide +kernel
theorem dL_law__2731 : decode cL_law_ 2731 = .ok (.aload_n 2, 1) := by decide +kernel
theorem dL_law__2732 : decode cL_law_ 2732 = .ok (.invokevirtual 157, 3) := by decide +kernel
theorem dL_law__2735 : decode cL_law_ 2735 = .ok (.iload 5, 2) := by decide +kernel
theorem dL_law__2737 : decode cL_law_ 2737 = .ok (.if_icmp .eq 5, 3) := by decide +kernel
theorem dL_law__2740 : decode cL_law_ 2740 = .ok (.iconst 0, 1) := by decide +kernel
theorem dL_law__2741 : decode cL_law_ 2741 = .ok (.ireturn, 1) := by decide +kernel
theorem dL_law__2742 : decode cL_law_ 2742 = .ok (.iload 5, 2) := by decide +kernel
theorem dL_law__2744 : decode cL_law_ 2744 = .ok (.ifCond .ne 15, 3) := by decide +kernel
theorem dL_law__2747 : decode cL_law_ 2747 = .ok (.aload_n 3, 1) := by decide +kernel
theorem dL_law__2748 : decode cL_law_ 2748 = .ok (.iconst 0, 1) := by decide +kernel
theorem dL_law__2749 : decode cL_law_ 2749 = .ok (.laload, 1) := by decide +kernel
theorem dL_law__2750 : decode cL_law_ 2750 = .ok (.iload 6, 2) := by decide +kernel
theorem dL_law__2752 : decode cL_law_ 2752 = .ok (.i2l, 1) := by decide +kernel
theorem dL_law__2753 : decode cL_law_ 2753 = .ok (.lcmp, 1) := by decide +kernel
theorem dL_law__2754 : decode cL_law_ 2754 = .ok (.ifCond .eq 5, 3) := by decide +kernel
theorem dL_law__2757 : decode cL_law_ 2757 = .ok (.iconst 0, 1) := by decide +kernel
theorem dL_law__2758 : decode cL_law_ 2758 = .ok (.ireturn, 1) := by decide +kernel
theorem dL_law__2759 : decode cL_law_ 2759 = .ok (.goto 576, 3) := by decide +kernel
theorem dL_law__2762 : decode cL_law_ 2762 = .ok (.aload_n 1, 1) := by decide +kernel
theorem dL_law__2763 : decode cL_law_ 2763 = .ok (.invokevirtual 257, 3) := by decide +kernel
theorem dL_law__2766 : decode cL_law_ 2766 = .ok (.aload_n 2, 1) := by decide +kernel
theorem dL_law__2767 : decode cL_law_ 2767 = .ok (.invokevirtual 261, 3) := by decide +kernel
theorem dL_law__2770 : decode cL_law_ 2770 = .ok (.lcmp, 1) := by decide +kernel
theorem dL_law__2771 : decode cL_law_ 2771 = .ok (.ifCond .eq 564, 3) := by decide +kernel
theorem dL_law__2774 : decode cL_law_ 2774 = .ok (.iconst 0, 1) := by decide +kernel
theorem dL_law__2775 : decode cL_law_ 2775 = .ok (.ireturn, 1) := by decide +kernel
theorem dL_law__2776 : decode cL_law_ 2776 = .ok (.aload_n 1, 1) := by decide +kernel
theorem dL_law__2777 : decode cL_law_ 2777 = .ok (.aload_n 0, 1) := by decide +kernel
theorem dL_law__2778 : decode cL_law_ 2778 = .ok (.iload 4, 2) := by decide +kernel
theorem dL_law__2780 : decode cL_law_ 2780 = .ok (.iconst 1, 1) := by decide +kernel
theorem dL_law__2781 : decode cL_law_ 2781 = .ok (.iadd, 1) := by decide +kernel
theorem dL_law__2782 : decode cL_law_ 2782 = .ok (.iaload, 1) := by decide +kernel
theorem dL_law__2783 : decode cL_law_ 2783 = .ok (.aload_n 0, 1) := by decide +kernel
theorem dL_law__2784 : decode cL_law_ 2784 = .ok (.iload 4, 2) := by decide +kernel
theorem dL_law__2786 : decode cL_law_ 2786 = .ok (.iconst 2, 1) := by decide +kernel
theorem dL_law__2787 : decode cL_law_ 2787 = .ok (.iadd, 1) := by decide +kernel
theorem dL_law__2788 : decode cL_law_ 2788 = .ok (.iaload, 1) := by decide +kernel
theorem dL_law__2789 : decode cL_law_ 2789 = .ok (.aload_n 3, 1) := by decide +kernel
theorem dL_law__2790 : decode cL_law_ 2790 = .ok (.invokestatic 262, 3) := by decide +kernel
theorem dL_law__2793 : decode cL_law_ 2793 = .ok (.istore 5, 2) := by decide +kernel
theorem dL_law__2795 : decode cL_law_ 2795 = .ok (.aload_n 2, 1) := by decide +kernel
theorem dL_law__2796 : decode cL_law_ 2796 = .ok (.aload_n 0, 1) := by decide +kernel
theorem dL_law__2797 : decode cL_law_ 2797 = .ok (.iload 4, 2) := by decide +kernel
theorem dL_law__2799 : decode cL_law_ 2799 = .ok (.iconst 1, 1) := by decide +kernel
theorem dL_law__2800 : decode cL_law_ 2800 = .ok (.iadd, 1) := by decide +kernel
theorem dL_law__2801 : decode cL_law_ 2801 = .ok (.iaload, 1) := by decide +kernel
theorem dL_law__2802 : decode cL_law_ 2802 = .ok (.aload_n 0, 1) := by decide +kernel
theorem dL_law__2803 : decode cL_law_ 2803 = .ok (.iload 4, 2) := by decide +kernel
theorem dL_law__2805 : decode cL_law_ 2805 = .ok (.iconst 2, 1) := by decide +kernel
theorem dL_law__2806 : decode cL_law_ 2806 = .ok (.iadd, 1) := by decide +kernel
theorem dL_law__2807 : decode cL_law_ 2807 = .ok (.iaload, 1) := by decide +kernel
theorem dL_law__2808 : decode cL_law_ 2808 = .ok (.invokevirtual 264, 3) := by decide +kernel
theorem dL_law__2811 : decode cL_law_ 2811 = .ok (.lstore 6, 2) := by decide +kernel
theorem dL_law__2813 : decode cL_law_ 2813 = .ok (.aload_n 2, 1) := by decide +kernel
theorem dL_law__2814 : decode cL_law_ 2814 = .ok (.invokevirtual 157, 3) := by decide +kernel
theorem dL_law__2817 : decode cL_law_ 2817 = .ok (.iload 5, 2) := by decide +kernel
theorem dL_law__2819 : decode cL_law_ 2819 = .ok (.if_icmp .eq 5, 3) := by decide +kernel
theorem dL_law__2822 : decode cL_law_ 2822 = .ok (.iconst 0, 1) := by decide +kernel
theorem dL_law__2823 : decode cL_law_ 2823 = .ok (.ireturn, 1) := by decide +kernel
theorem dL_law__2824 : decode cL_law_ 2824 = .ok (.iload 5, 2) := by decide +kernel
theorem dL_law__2826 : decode cL_law_ 2826 = .ok (.ifCond .ne 14, 3) := by decide +kernel
theorem dL_law__2829 : decode cL_law_ 2829 = .ok (.aload_n 3, 1) := by decide +kernel
theorem dL_law__2830 : decode cL_law_ 2830 = .ok (.iconst 0, 1) := by decide +kernel
theorem dL_law__2831 : decode cL_law_ 2831 = .ok (.laload, 1) := by decide +kernel
theorem dL_law__2832 : decode cL_law_ 2832 = .ok (.lload 6, 2) := by decide +kernel
theorem dL_law__2834 : decode cL_law_ 2834 = .ok (.lcmp, 1) := by decide +kernel
theorem dL_law__2835 : decode cL_law_ 2835 = .ok (.ifCond .eq 5, 3) := by decide +kernel
theorem dL_law__2838 : decode cL_law_ 2838 = .ok (.iconst 0, 1) := by decide +kernel
theorem dL_law__2839 : decode cL_law_ 2839 = .ok (.ireturn, 1) := by decide +kernel
theorem dL_law__2840 : decode cL_law_ 2840 = .ok (.goto 495, 3) := by decide +kernel
theorem dL_law__2843 : decode cL_law_ 2843 = .ok (.aload_n 1, 1) := by decide +kernel
theorem dL_law__2844 : decode cL_law_ 2844 = .ok (.aload_n 0, 1) := by decide +kernel
theorem dL_law__2845 : decode cL_law_ 2845 = .ok (.iload 4, 2) := by decide +kernel
theorem dL_law__2847 : decode cL_law_ 2847 = .ok (.iconst 1, 1) := by decide +kernel
theorem dL_law__2848 : decode cL_law_ 2848 = .ok (.iadd, 1) := by decide +kernel
theorem dL_law__2849 : decode cL_law_ 2849 = .ok (.iaload, 1) := by decide +kernel
theorem dL_law__2850 : decode cL_law_ 2850 = .ok (.invokevirtual 265, 3) := by decide +kernel
theorem dL_law__2853 : decode cL_law_ 2853 = .ok (.aload_n 2, 1) := by decide +kernel
theorem dL_law__2854 : decode cL_law_ 2854 = .ok (.aload_n 0, 1) := by decide +kernel
theorem dL_law__2855 : decode cL_law_ 2855 = .ok (.iload 4, 2) := by decide +kernel
theorem dL_law__2857 : decode cL_law_ 2857 = .ok (.iconst 1, 1) := by decide +kernel
theorem dL_law__2858 : decode cL_law_ 2858 = .ok (.iadd, 1) := by decide +kernel
theorem dL_law__2859 : decode cL_law_ 2859 = .ok (.iaload, 1) := by decide +kernel
theorem dL_law__2860 : decode cL_law_ 2860 = .ok (.invokevirtual 268, 3) := by decide +kernel
theorem dL_law__2863 : decode cL_law_ 2863 = .ok (.if_icmp .eq 472, 3) := by decide +kernel
theorem dL_law__2866 : decode cL_law_ 2866 = .ok (.iconst 0, 1) := by decide +kernel
theorem dL_law__2867 : decode cL_law_ 2867 = .ok (.ireturn, 1) := by decide +kernel
theorem dL_law__2868 : decode cL_law_ 2868 = .ok (.aload_n 1, 1) := by decide +kernel
theorem dL_law__2869 : decode cL_law_ 2869 = .ok (.aload_n 0, 1) := by decide +kernel
theorem dL_law__2870 : decode cL_law_ 2870 = .ok (.iload 4, 2) := by decide +kernel
theorem dL_law__2872 : decode cL_law_ 2872 = .ok (.iconst 1, 1) := by decide +kernel
theorem dL_law__2873 : decode cL_law_ 2873 = .ok (.iadd, 1) := by decide +kernel
theorem dL_law__2874 : decode cL_law_ 2874 = .ok (.iaload, 1) := by decide +kernel
theorem dL_law__2875 : decode cL_law_ 2875 = .ok (.aload_n 3, 1) := by decide +kernel
theorem dL_law__2876 : decode cL_law_ 2876 = .ok (.invokestatic 269, 3) := by decide +kernel
theorem dL_law__2879 : decode cL_law_ 2879 = .ok (.istore 5, 2) := by decide +kernel
theorem dL_law__2881 : decode cL_law_ 2881 = .ok (.aload_n 2, 1) := by decide +kernel
theorem dL_law__2882 : decode cL_law_ 2882 = .ok (.aload_n 0, 1) := by decide +kernel
theorem dL_law__2883 : decode cL_law_ 2883 = .ok (.iload 4, 2) := by decide +kernel
theorem dL_law__2885 : decode cL_law_ 2885 = .ok (.iconst 1, 1) := by decide +kernel
theorem dL_law__2886 : decode cL_law_ 2886 = .ok (.iadd, 1) := by decide +kernel
theorem dL_law__2887 : decode cL_law_ 2887 = .ok (.iaload, 1) := by decide +kernel
theorem dL_law__2888 : decode cL_law_ 2888 = .ok (.invokevirtual 271, 3) := by decide +kernel
theorem dL_law__2891 : decode cL_law_ 2891 = .ok (.istore 6, 2) := by decide +kernel
theorem dL_law__2893 : decode cL_law_ 2893 = .ok (.aload_n 2, 1) := by decide +kernel
theorem dL_law__2894 : decode cL_law_ 2894 = .ok (.invokevirtual 157, 3) := by decide +kernel
theorem dL_law__2897 : decode cL_law_ 2897 = .ok (.iload 5, 2) := by decide +kernel
theorem dL_law__2899 : decode cL_law_ 2899 = .ok (.if_icmp .eq 5, 3) := by decide +kernel
theorem dL_law__2902 : decode cL_law_ 2902 = .ok (.iconst 0, 1) := by decide +kernel
theorem dL_law__2903 : decode cL_law_ 2903 = .ok (.ireturn, 1) := by decide +kernel
theorem dL_law__2904 : decode cL_law_ 2904 = .ok (.iload 5, 2) := by decide +kernel
theorem dL_law__2906 : decode cL_law_ 2906 = .ok (.ifCond .ne 15, 3) := by decide +kernel
theorem dL_law__2909 : decode cL_law_ 2909 = .ok (.aload_n 3, 1) := by decide +kernel
theorem dL_law__2910 : decode cL_law_ 2910 = .ok (.iconst 0, 1) := by decide +kernel
theorem dL_law__2911 : decode cL_law_ 2911 = .ok (.laload, 1) := by decide +kernel
theorem dL_law__2912 : decode cL_law_ 2912 = .ok (.iload 6, 2) := by decide +kernel
theorem dL_law__2914 : decode cL_law_ 2914 = .ok (.i2l, 1) := by decide +kernel
theorem dL_law__2915 : decode cL_law_ 2915 = .ok (.lcmp, 1) := by decide +kernel
theorem dL_law__2916 : decode cL_law_ 2916 = .ok (.ifCond .eq 5, 3) := by decide +kernel
theorem dL_law__2919 : decode cL_law_ 2919 = .ok (.iconst 0, 1) := by decide +kernel
theorem dL_law__2920 : decode cL_law_ 2920 = .ok (.ireturn, 1) := by decide +kernel
theorem dL_law__2921 : decode cL_law_ 2921 = .ok (.goto 414, 3) := by decide +kernel
theorem dL_law__2924 : decode cL_law_ 2924 = .ok (.aload_n 1, 1) := by decide +kernel
theorem dL_law__2925 : decode cL_law_ 2925 = .ok (.invokevirtual 272, 3) := by decide +kernel
theorem dL_law__2928 : decode cL_law_ 2928 = .ok (.aload_n 2, 1) := by decide +kernel
theorem dL_law__2929 : decode cL_law_ 2929 = .ok (.invokevirtual 275, 3) := by decide +kernel
theorem dL_law__2932 : decode cL_law_ 2932 = .ok (.if_icmp .eq 403, 3) := by decide +kernel
theorem dL_law__2935 : decode cL_law_ 2935 = .ok (.iconst 0, 1) := by decide +kernel
theorem dL_law__2936 : decode cL_law_ 2936 = .ok (.ireturn, 1) := by decide +kernel
theorem dL_law__2937 : decode cL_law_ 2937 = .ok (.aload_n 1, 1) := by decide +kernel
theorem dL_law__2938 : decode cL_law_ 2938 = .ok (.aload_n 0, 1) := by decide +kernel
theorem dL_law__2939 : decode cL_law_ 2939 = .ok (.iload 4, 2) := by decide +kernel
theorem dL_law__2941 : decode cL_law_ 2941 = .ok (.iconst 1, 1) := by decide +kernel
theorem dL_law__2942 : decode cL_law_ 2942 = .ok (.iadd, 1) := by decide +kernel
theorem dL_law__2943 : decode cL_law_ 2943 = .ok (.iaload, 1) := by decide +kernel
theorem dL_law__2944 : decode cL_law_ 2944 = .ok (.aload_n 3, 1) := by decide +kernel
theorem dL_law__2945 : decode cL_law_ 2945 = .ok (.invokestatic 276, 3) := by decide +kernel
theorem dL_law__2948 : decode cL_law_ 2948 = .ok (.istore 5, 2) := by decide +kernel
theorem dL_law__2950 : decode cL_law_ 2950 = .ok (.aload_n 2, 1) := by decide +kernel
theorem dL_law__2951 : decode cL_law_ 2951 = .ok (.aload_n 0, 1) := by decide +kernel
theorem dL_law__2952 : decode cL_law_ 2952 = .ok (.iload 4, 2) := by decide +kernel
theorem dL_law__2954 : decode cL_law_ 2954 = .ok (.iconst 1, 1) := by decide +kernel
theorem dL_law__2955 : decode cL_law_ 2955 = .ok (.iadd, 1) := by decide +kernel
theorem dL_law__2956 : decode cL_law_ 2956 = .ok (.iaload, 1) := by decide +kernel
theorem dL_law__2957 : decode cL_law_ 2957 = .ok (.invokevirtual 278, 3) := by decide +kernel
theorem dL_law__2960 : decode cL_law_ 2960 = .ok (.lstore 6, 2) := by decide +kernel
theorem dL_law__2962 : decode cL_law_ 2962 = .ok (.aload_n 2, 1) := by decide +kernel
theorem dL_law__2963 : decode cL_law_ 2963 = .ok (.invokevirtual 157, 3) := by decide +kernel
theorem dL_law__2966 : decode cL_law_ 2966 = .ok (.iload 5, 2) := by decide +kernel
theorem dL_law__2968 : decode cL_law_ 2968 = .ok (.if_icmp .eq 5, 3) := by decide +kernel
theorem dL_law__2971 : decode cL_law_ 2971 = .ok (.iconst 0, 1) := by decide +kernel
theorem dL_law__2972 : decode cL_law_ 2972 = .ok (.ireturn, 1) := by decide +kernel
theorem dL_law__2973 : decode cL_law_ 2973 = .ok (.iload 5, 2) := by decide +kernel
theorem dL_law__2975 : decode cL_law_ 2975 = .ok (.ifCond .ne 14, 3) := by decide +kernel
theorem dL_law__2978 : decode cL_law_ 2978 = .ok (.aload_n 3, 1) := by decide +kernel
theorem dL_law__2979 : decode cL_law_ 2979 = .ok (.iconst 0, 1) := by decide +kernel
theorem dL_law__2980 : decode cL_law_ 2980 = .ok (.laload, 1) := by decide +kernel
theorem dL_law__2981 : decode cL_law_ 2981 = .ok (.lload 6, 2) := by decide +kernel
theorem dL_law__2983 : decode cL_law_ 2983 = .ok (.lcmp, 1) := by decide +kernel
theorem dL_law__2984 : decode cL_law_ 2984 = .ok (.ifCond .eq 5, 3) := by decide +kernel
theorem dL_law__2987 : decode cL_law_ 2987 = .ok (.iconst 0, 1) := by decide +kernel
theorem dL_law__2988 : decode cL_law_ 2988 = .ok (.ireturn, 1) := by decide +kernel
theorem dL_law__2989 : decode cL_law_ 2989 = .ok (.goto 346, 3) := by decide +kernel
theorem dL_law__2992 : decode cL_law_ 2992 = .ok (.aload_n 1, 1) := by decide +kernel
theorem dL_law__2993 : decode cL_law_ 2993 = .ok (.aload_n 0, 1) := by decide +kernel
theorem dL_law__2994 : decode cL_law_ 2994 = .ok (.iload 4, 2) := by decide +kernel
theorem dL_law__2996 : decode cL_law_ 2996 = .ok (.iconst 1, 1) := by decide +kernel
theorem dL_law__2997 : decode cL_law_ 2997 = .ok (.iadd, 1) := by decide +kernel
theorem dL_law__2998 : decode cL_law_ 2998 = .ok (.iaload, 1) := by decide +kernel
theorem dL_law__2999 : decode cL_law_ 2999 = .ok (.i2l, 1) := by decide +kernel
theorem dL_law__3000 : decode cL_law_ 3000 = .ok (.bipush 32, 2) := by decide +kernel
theorem dL_law__3002 : decode cL_law_ 3002 = .ok (.lshl, 1) := by decide +kernel
theorem dL_law__3003 : decode cL_law_ 3003 = .ok (.aload_n 0, 1) := by decide +kernel
theorem dL_law__3004 : decode cL_law_ 3004 = .ok (.iload 4, 2) := by decide +kernel
theorem dL_law__3006 : decode cL_law_ 3006 = .ok (.iconst 2, 1) := by decide +kernel
theorem dL_law__3007 : decode cL_law_ 3007 = .ok (.iadd, 1) := by decide +kernel
theorem dL_law__3008 : decode cL_law_ 3008 = .ok (.iaload, 1) := by decide +kernel
theorem dL_law__3009 : decode cL_law_ 3009 = .ok (.i2l, 1) := by decide +kernel
theorem dL_law__3010 : decode cL_law_ 3010 = .ok (.ldc2_w 178, 3) := by decide +kernel
theorem dL_law__3013 : decode cL_law_ 3013 = .ok (.land, 1) := by decide +kernel
theorem dL_law__3014 : decode cL_law_ 3014 = .ok (.lor, 1) := by decide +kernel
theorem dL_law__3015 : decode cL_law_ 3015 = .ok (.aload_n 0, 1) := by decide +kernel
theorem dL_law__3016 : decode cL_law_ 3016 = .ok (.iload 4, 2) := by decide +kernel
theorem dL_law__3018 : decode cL_law_ 3018 = .ok (.iconst 3, 1) := by decide +kernel
theorem dL_law__3019 : decode cL_law_ 3019 = .ok (.iadd, 1) := by decide +kernel
theorem dL_law__3020 : decode cL_law_ 3020 = .ok (.iaload, 1) := by decide +kernel
theorem dL_law__3021 : decode cL_law_ 3021 = .ok (.aload_n 3, 1) := by decide +kernel
theorem dL_law__3022 : decode cL_law_ 3022 = .ok (.invokestatic 279, 3) := by decide +kernel
theorem dL_law__3025 : decode cL_law_ 3025 = .ok (.istore 5, 2) := by decide +kernel
theorem dL_law__3027 : decode cL_law_ 3027 = .ok (.aload_n 2, 1) := by decide +kernel
theorem dL_law__3028 : decode cL_law_ 3028 = .ok (.aload_n 0, 1) := by decide +kernel
theorem dL_law__3029 : decode cL_law_ 3029 = .ok (.iload 4, 2) := by decide +kernel
theorem dL_law__3031 : decode cL_law_ 3031 = .ok (.iconst 1, 1) := by decide +kernel
theorem dL_law__3032 : decode cL_law_ 3032 = .ok (.iadd, 1) := by decide +kernel
theorem dL_law__3033 : decode cL_law_ 3033 = .ok (.iaload, 1) := by decide +kernel
theorem dL_law__3034 : decode cL_law_ 3034 = .ok (.i2l, 1) := by decide +kernel
theorem dL_law__3035 : decode cL_law_ 3035 = .ok (.bipush 32, 2) := by decide +kernel
theorem dL_law__3037 : decode cL_law_ 3037 = .ok (.lshl, 1) := by decide +kernel
theorem dL_law__3038 : decode cL_law_ 3038 = .ok (.aload_n 0, 1) := by decide +kernel
theorem dL_law__3039 : decode cL_law_ 3039 = .ok (.iload 4, 2) := by decide +kernel
theorem dL_law__3041 : decode cL_law_ 3041 = .ok (.iconst 2, 1) := by decide +kernel
theorem dL_law__3042 : decode cL_law_ 3042 = .ok (.iadd, 1) := by decide +kernel
theorem dL_law__3043 : decode cL_law_ 3043 = .ok (.iaload, 1) := by decide +kernel
theorem dL_law__3044 : decode cL_law_ 3044 = .ok (.i2l, 1) := by decide +kernel
theorem dL_law__3045 : decode cL_law_ 3045 = .ok (.ldc2_w 178, 3) := by decide +kernel
theorem dL_law__3048 : decode cL_law_ 3048 = .ok (.land, 1) := by decide +kernel
theorem dL_law__3049 : decode cL_law_ 3049 = .ok (.lor, 1) := by decide +kernel
theorem dL_law__3050 : decode cL_law_ 3050 = .ok (.aload_n 0, 1) := by decide +kernel
theorem dL_law__3051 : decode cL_law_ 3051 = .ok (.iload 4, 2) := by decide +kernel
theorem dL_law__3053 : decode cL_law_ 3053 = .ok (.iconst 3, 1) := by decide +kernel
theorem dL_law__3054 : decode cL_law_ 3054 = .ok (.iadd, 1) := by decide +kernel
theorem dL_law__3055 : decode cL_law_ 3055 = .ok (.iaload, 1) := by decide +kernel
theorem dL_law__3056 : decode cL_law_ 3056 = .ok (.invokevirtual 281, 3) := by decide +kernel
theorem dL_law__3059 : decode cL_law_ 3059 = .ok (.istore 6, 2) := by decide +kernel
theorem dL_law__3061 : decode cL_law_ 3061 = .ok (.aload_n 2, 1) := by decide +kernel
theorem dL_law__3062 : decode cL_law_ 3062 = .ok (.invokevirtual 157, 3) := by decide +kernel
theorem dL_law__3065 : decode cL_law_ 3065 = .ok (.iload 5, 2) := by decide +kernel
theorem dL_law__3067 : decode cL_law_ 3067 = .ok (.if_icmp .eq 5, 3) := by decide +kernel
theorem dL_law__3070 : decode cL_law_ 3070 = .ok (.iconst 0, 1) := by decide +kernel
theorem dL_law__3071 : decode cL_law_ 3071 = .ok (.ireturn, 1) := by decide +kernel
theorem dL_law__3072 : decode cL_law_ 3072 = .ok (.iload 5, 2) := by decide +kernel
theorem dL_law__3074 : decode cL_law_ 3074 = .ok (.ifCond .ne 15, 3) := by decide +kernel
theorem dL_law__3077 : decode cL_law_ 3077 = .ok (.aload_n 3, 1) := by decide +kernel
theorem dL_law__3078 : decode cL_law_ 3078 = .ok (.iconst 0, 1) := by decide +kernel
theorem dL_law__3079 : decode cL_law_ 3079 = .ok (.laload, 1) := by decide +kernel
theorem dL_law__3080 : decode cL_law_ 3080 = .ok (.iload 6, 2) := by decide +kernel
theorem dL_law__3082 : decode cL_law_ 3082 = .ok (.i2l, 1) := by decide +kernel
theorem dL_law__3083 : decode cL_law_ 3083 = .ok (.lcmp, 1) := by decide +kernel
theorem dL_law__3084 : decode cL_law_ 3084 = .ok (.ifCond .eq 5, 3) := by decide +kernel
theorem dL_law__3087 : decode cL_law_ 3087 = .ok (.iconst 0, 1) := by decide +kernel
theorem dL_law__3088 : decode cL_law_ 3088 = .ok (.ireturn, 1) := by decide +kernel
theorem dL_law__3089 : decode cL_law_ 3089 = .ok (.goto 246, 3) := by decide +kernel
theorem dL_law__3092 : decode cL_law_ 3092 = .ok (.aload_n 1, 1) := by decide +kernel
theorem dL_law__3093 : decode cL_law_ 3093 = .ok (.aload_n 0, 1) := by decide +kernel
theorem dL_law__3094 : decode cL_law_ 3094 = .ok (.iload 4, 2) := by decide +kernel
theorem dL_law__3096 : decode cL_law_ 3096 = .ok (.iconst 1, 1) := by decide +kernel
theorem dL_law__3097 : decode cL_law_ 3097 = .ok (.iadd, 1) := by decide +kernel
theorem dL_law__3098 : decode cL_law_ 3098 = .ok (.iaload, 1) := by decide +kernel
theorem dL_law__3099 : decode cL_law_ 3099 = .ok (.i2l, 1) := by decide +kernel
theorem dL_law__3100 : decode cL_law_ 3100 = .ok (.bipush 32, 2) := by decide +kernel
theorem dL_law__3102 : decode cL_law_ 3102 = .ok (.lshl, 1) := by decide +kernel
theorem dL_law__3103 : decode cL_law_ 3103 = .ok (.aload_n 0, 1) := by decide +kernel
theorem dL_law__3104 : decode cL_law_ 3104 = .ok (.iload 4, 2) := by decide +kernel
theorem dL_law__3106 : decode cL_law_ 3106 = .ok (.iconst 2, 1) := by decide +kernel
theorem dL_law__3107 : decode cL_law_ 3107 = .ok (.iadd, 1) := by decide +kernel
theorem dL_law__3108 : decode cL_law_ 3108 = .ok (.iaload, 1) := by decide +kernel
theorem dL_law__3109 : decode cL_law_ 3109 = .ok (.i2l, 1) := by decide +kernel
theorem dL_law__3110 : decode cL_law_ 3110 = .ok (.ldc2_w 178, 3) := by decide +kernel
theorem dL_law__3113 : decode cL_law_ 3113 = .ok (.land, 1) := by decide +kernel
theorem dL_law__3114 : decode cL_law_ 3114 = .ok (.lor, 1) := by decide +kernel
theorem dL_law__3115 : decode cL_law_ 3115 = .ok (.aload_n 0, 1) := by decide +kernel
theorem dL_law__3116 : decode cL_law_ 3116 = .ok (.iload 4, 2) := by decide +kernel
theorem dL_law__3118 : decode cL_law_ 3118 = .ok (.iconst 3, 1) := by decide +kernel
theorem dL_law__3119 : decode cL_law_ 3119 = .ok (.iadd, 1) := by decide +kernel
theorem dL_law__3120 : decode cL_law_ 3120 = .ok (.iaload, 1) := by decide +kernel
theorem dL_law__3121 : decode cL_law_ 3121 = .ok (.aload_n 3, 1) := by decide +kernel
theorem dL_law__3122 : decode cL_law_ 3122 = .ok (.invokestatic 282, 3) := by decide +kernel
theorem dL_law__3125 : decode cL_law_ 3125 = .ok (.istore 5, 2) := by decide +kernel
theorem dL_law__3127 : decode cL_law_ 3127 = .ok (.aload_n 2, 1) := by decide +kernel
theorem dL_law__3128 : decode cL_law_ 3128 = .ok (.aload_n 0, 1) := by decide +kernel
theorem dL_law__3129 : decode cL_law_ 3129 = .ok (.iload 4, 2) := by decide +kernel
theorem dL_law__3131 : decode cL_law_ 3131 = .ok (.iconst 1, 1) := by decide +kernel
theorem dL_law__3132 : decode cL_law_ 3132 = .ok (.iadd, 1) := by decide +kernel
theorem dL_law__3133 : decode cL_law_ 3133 = .ok (.iaload, 1) := by decide +kernel
theorem dL_law__3134 : decode cL_law_ 3134 = .ok (.i2l, 1) := by decide +kernel
theorem dL_law__3135 : decode cL_law_ 3135 = .ok (.bipush 32, 2) := by decide +kernel
theorem dL_law__3137 : decode cL_law_ 3137 = .ok (.lshl, 1) := by decide +kernel
theorem dL_law__3138 : decode cL_law_ 3138 = .ok (.aload_n 0, 1) := by decide +kernel
theorem dL_law__3139 : decode cL_law_ 3139 = .ok (.iload 4, 2) := by decide +kernel
theorem dL_law__3141 : decode cL_law_ 3141 = .ok (.iconst 2, 1) := by decide +kernel
theorem dL_law__3142 : decode cL_law_ 3142 = .ok (.iadd, 1) := by decide +kernel
theorem dL_law__3143 : decode cL_law_ 3143 = .ok (.iaload, 1) := by decide +kernel
theorem dL_law__3144 : decode cL_law_ 3144 = .ok (.i2l, 1) := by decide +kernel
theorem dL_law__3145 : decode cL_law_ 3145 = .ok (.ldc2_w 178, 3) := by decide +kernel
theorem dL_law__3148 : decode cL_law_ 3148 = .ok (.land, 1) := by decide +kernel
theorem dL_law__3149 : decode cL_law_ 3149 = .ok (.lor, 1) := by decide +kernel
theorem dL_law__3150 : decode cL_law_ 3150 = .ok (.aload_n 0, 1) := by decide +kernel
theorem dL_law__3151 : decode cL_law_ 3151 = .ok (.iload 4, 2) := by decide +kernel
theorem dL_law__3153 : decode cL_law_ 3153 = .ok (.iconst 3, 1) := by decide +kernel
theorem dL_law__3154 : decode cL_law_ 3154 = .ok (.iadd, 1) := by decide +kernel
theorem dL_law__3155 : decode cL_law_ 3155 = .ok (.iaload, 1) := by decide +kernel
theorem dL_law__3156 : decode cL_law_ 3156 = .ok (.invokevirtual 284, 3) := by decide +kernel
theorem dL_law__3159 : decode cL_law_ 3159 = .ok (.istore 6, 2) := by decide +kernel
theorem dL_law__3161 : decode cL_law_ 3161 = .ok (.aload_n 2, 1) := by decide +kernel
theorem dL_law__3162 : decode cL_law_ 3162 = .ok (.invokevirtual 157, 3) := by decide +kernel
theorem dL_law__3165 : decode cL_law_ 3165 = .ok (.iload 5, 2) := by decide +kernel
theorem dL_law__3167 : decode cL_law_ 3167 = .ok (.if_icmp .eq 5, 3) := by decide +kernel
theorem dL_law__3170 : decode cL_law_ 3170 = .ok (.iconst 0, 1) := by decide +kernel
theorem dL_law__3171 : decode cL_law_ 3171 = .ok (.ireturn, 1) := by decide +kernel
theorem dL_law__3172 : decode cL_law_ 3172 = .ok (.iload 5, 2) := by decide +kernel
theorem dL_law__3174 : decode cL_law_ 3174 = .ok (.ifCond .ne 15, 3) := by decide +kernel
theorem dL_law__3177 : decode cL_law_ 3177 = .ok (.aload_n 3, 1) := by decide +kernel
theorem dL_law__3178 : decode cL_law_ 3178 = .ok (.iconst 0, 1) := by decide +kernel
theorem dL_law__3179 : decode cL_law_ 3179 = .ok (.laload, 1) := by decide +kernel
theorem dL_law__3180 : decode cL_law_ 3180 = .ok (.iload 6, 2) := by decide +kernel
theorem dL_law__3182 : decode cL_law_ 3182 = .ok (.i2l, 1) := by decide +kernel
theorem dL_law__3183 : decode cL_law_ 3183 = .ok (.lcmp, 1) := by decide +kernel
theorem dL_law__3184 : decode cL_law_ 3184 = .ok (.ifCond .eq 5, 3) := by decide +kernel
theorem dL_law__3187 : decode cL_law_ 3187 = .ok (.iconst 0, 1) := by decide +kernel
theorem dL_law__3188 : decode cL_law_ 3188 = .ok (.ireturn, 1) := by decide +kernel
theorem dL_law__3189 : decode cL_law_ 3189 = .ok (.goto 146, 3) := by decide +kernel
theorem dL_law__3192 : decode cL_law_ 3192 = .ok (.aload_n 1, 1) := by decide +kernel
theorem dL_law__3193 : decode cL_law_ 3193 = .ok (.aload_n 0, 1) := by decide +kernel
theorem dL_law__3194 : decode cL_law_ 3194 = .ok (.iload 4, 2) := by decide +kernel
theorem dL_law__3196 : decode cL_law_ 3196 = .ok (.iconst 1, 1) := by decide +kernel
theorem dL_law__3197 : decode cL_law_ 3197 = .ok (.iadd, 1) := by decide +kernel
theorem dL_law__3198 : decode cL_law_ 3198 = .ok (.iaload, 1) := by decide +kernel
theorem dL_law__3199 : decode cL_law_ 3199 = .ok (.aload_n 3, 1) := by decide +kernel
theorem dL_law__3200 : decode cL_law_ 3200 = .ok (.invokestatic 285, 3) := by decide +kernel
theorem dL_law__3203 : decode cL_law_ 3203 = .ok (.istore 5, 2) := by decide +kernel
theorem dL_law__3205 : decode cL_law_ 3205 = .ok (.aload_n 2, 1) := by decide +kernel
theorem dL_law__3206 : decode cL_law_ 3206 = .ok (.aload_n 0, 1) := by decide +kernel
theorem dL_law__3207 : decode cL_law_ 3207 = .ok (.iload 4, 2) := by decide +kernel
theorem dL_law__3209 : decode cL_law_ 3209 = .ok (.iconst 1, 1) := by decide +kernel
theorem dL_law__3210 : decode cL_law_ 3210 = .ok (.iadd, 1) := by decide +kernel
theorem dL_law__3211 : decode cL_law_ 3211 = .ok (.iaload, 1) := by decide +kernel
theorem dL_law__3212 : decode cL_law_ 3212 = .ok (.invokevirtual 287, 3) := by decide +kernel
theorem dL_law__3215 : decode cL_law_ 3215 = .ok (.istore 6, 2) := by decide +kernel
theorem dL_law__3217 : decode cL_law_ 3217 = .ok (.aload_n 2, 1) := by decide +kernel
theorem dL_law__3218 : decode cL_law_ 3218 = .ok (.invokevirtual 157, 3) := by decide +kernel
theorem dL_law__3221 : decode cL_law_ 3221 = .ok (.iload 5, 2) := by decide +kernel
theorem dL_law__3223 : decode cL_law_ 3223 = .ok (.if_icmp .eq 5, 3) := by decide +kernel
theorem dL_law__3226 : decode cL_law_ 3226 = .ok (.iconst 0, 1) := by decide +kernel
theorem dL_law__3227 : decode cL_law_ 3227 = .ok (.ireturn, 1) := by decide +kernel
theorem dL_law__3228 : decode cL_law_ 3228 = .ok (.iload 5, 2) := by decide +kernel
theorem dL_law__3230 : decode cL_law_ 3230 = .ok (.ifCond .ne 15, 3) := by decide +kernel
theorem dL_law__3233 : decode cL_law_ 3233 = .ok (.aload_n 3, 1) := by decide +kernel
theorem dL_law__3234 : decode cL_law_ 3234 = .ok (.iconst 0, 1) := by decide +kernel
theorem dL_law__3235 : decode cL_law_ 3235 = .ok (.laload, 1) := by decide +kernel
theorem dL_law__3236 : decode cL_law_ 3236 = .ok (.iload 6, 2) := by decide +kernel
theorem dL_law__3238 : decode cL_law_ 3238 = .ok (.i2l, 1) := by decide +kernel
theorem dL_law__3239 : decode cL_law_ 3239 = .ok (.lcmp, 1) := by decide +kernel
theorem dL_law__3240 : decode cL_law_ 3240 = .ok (.ifCond .eq 5, 3) := by decide +kernel
theorem dL_law__3243 : decode cL_law_ 3243 = .ok (.iconst 0, 1) := by decide +kernel
theorem dL_law__3244 : decode cL_law_ 3244 = .ok (.ireturn, 1) := by decide +kernel
theorem dL_law__3245 : decode cL_law_ 3245 = .ok (.goto 90, 3) := by decide +kernel
theorem dL_law__3248 : decode cL_law_ 3248 = .ok (.aload_n 1, 1) := by decide +kernel
theorem dL_law__3249 : decode cL_law_ 3249 = .ok (.aload_n 0, 1) := by decide +kernel
theorem dL_law__3250 : decode cL_law_ 3250 = .ok (.iload 4, 2) := by decide +kernel
theorem dL_law__3252 : decode cL_law_ 3252 = .ok (.iconst 1, 1) := by decide +kernel
theorem dL_law__3253 : decode cL_law_ 3253 = .ok (.iadd, 1) := by decide +kernel
theorem dL_law__3254 : decode cL_law_ 3254 = .ok (.iaload, 1) := by decide +kernel
theorem dL_law__3255 : decode cL_law_ 3255 = .ok (.invokevirtual 288, 3) := by decide +kernel
theorem dL_law__3258 : decode cL_law_ 3258 = .ok (.aload_n 2, 1) := by decide +kernel
theorem dL_law__3259 : decode cL_law_ 3259 = .ok (.aload_n 0, 1) := by decide +kernel
theorem dL_law__3260 : decode cL_law_ 3260 = .ok (.iload 4, 2) := by decide +kernel
theorem dL_law__3262 : decode cL_law_ 3262 = .ok (.iconst 1, 1) := by decide +kernel
theorem dL_law__3263 : decode cL_law_ 3263 = .ok (.iadd, 1) := by decide +kernel
theorem dL_law__3264 : decode cL_law_ 3264 = .ok (.iaload, 1) := by decide +kernel
theorem dL_law__3265 : decode cL_law_ 3265 = .ok (.invokevirtual 291, 3) := by decide +kernel
theorem dL_law__3268 : decode cL_law_ 3268 = .ok (.if_icmp .eq 67, 3) := by decide +kernel
theorem dL_law__3271 : decode cL_law_ 3271 = .ok (.iconst 0, 1) := by decide +kernel
theorem dL_law__3272 : decode cL_law_ 3272 = .ok (.ireturn, 1) := by decide +kernel
theorem dL_law__3273 : decode cL_law_ 3273 = .ok (.aload_n 1, 1) := by decide +kernel
theorem dL_law__3274 : decode cL_law_ 3274 = .ok (.invokevirtual 292, 3) := by decide +kernel
theorem dL_law__3277 : decode cL_law_ 3277 = .ok (.aload_n 2, 1) := by decide +kernel
theorem dL_law__3278 : decode cL_law_ 3278 = .ok (.invokevirtual 296, 3) := by decide +kernel
theorem dL_law__3281 : decode cL_law_ 3281 = .ok (.if_icmp .eq 54, 3) := by decide +kernel
theorem dL_law__3284 : decode cL_law_ 3284 = .ok (.iconst 0, 1) := by decide +kernel
theorem dL_law__3285 : decode cL_law_ 3285 = .ok (.ireturn, 1) := by decide +kernel
theorem dL_law__3286 : decode cL_law_ 3286 = .ok (.aload_n 1, 1) := by decide +kernel
theorem dL_law__3287 : decode cL_law_ 3287 = .ok (.invokevirtual 297, 3) := by decide +kernel
theorem dL_law__3290 : decode cL_law_ 3290 = .ok (.aload_n 2, 1) := by decide +kernel
theorem dL_law__3291 : decode cL_law_ 3291 = .ok (.invokevirtual 300, 3) := by decide +kernel
theorem dL_law__3294 : decode cL_law_ 3294 = .ok (.goto 41, 3) := by decide +kernel
theorem dL_law__3297 : decode cL_law_ 3297 = .ok (.aload_n 1, 1) := by decide +kernel
theorem dL_law__3298 : decode cL_law_ 3298 = .ok (.invokevirtual 301, 3) := by decide +kernel
theorem dL_law__3301 : decode cL_law_ 3301 = .ok (.aload_n 2, 1) := by decide +kernel
theorem dL_law__3302 : decode cL_law_ 3302 = .ok (.invokevirtual 304, 3) := by decide +kernel
theorem dL_law__3305 : decode cL_law_ 3305 = .ok (.if_icmp .eq 30, 3) := by decide +kernel
theorem dL_law__3308 : decode cL_law_ 3308 = .ok (.iconst 0, 1) := by decide +kernel
theorem dL_law__3309 : decode cL_law_ 3309 = .ok (.ireturn, 1) := by decide +kernel
theorem dL_law__3310 : decode cL_law_ 3310 = .ok (.aload_n 1, 1) := by decide +kernel
theorem dL_law__3311 : decode cL_law_ 3311 = .ok (.aload_n 0, 1) := by decide +kernel
theorem dL_law__3312 : decode cL_law_ 3312 = .ok (.iload 4, 2) := by decide +kernel
theorem dL_law__3314 : decode cL_law_ 3314 = .ok (.iconst 1, 1) := by decide +kernel
theorem dL_law__3315 : decode cL_law_ 3315 = .ok (.iadd, 1) := by decide +kernel
theorem dL_law__3316 : decode cL_law_ 3316 = .ok (.iaload, 1) := by decide +kernel
theorem dL_law__3317 : decode cL_law_ 3317 = .ok (.invokevirtual 305, 3) := by decide +kernel
theorem dL_law__3320 : decode cL_law_ 3320 = .ok (.aload_n 2, 1) := by decide +kernel
theorem dL_law__3321 : decode cL_law_ 3321 = .ok (.aload_n 0, 1) := by decide +kernel
theorem dL_law__3322 : decode cL_law_ 3322 = .ok (.iload 4, 2) := by decide +kernel
theorem dL_law__3324 : decode cL_law_ 3324 = .ok (.iconst 1, 1) := by decide +kernel
theorem dL_law__3325 : decode cL_law_ 3325 = .ok (.iadd, 1) := by decide +kernel
theorem dL_law__3326 : decode cL_law_ 3326 = .ok (.iaload, 1) := by decide +kernel
theorem dL_law__3327 : decode cL_law_ 3327 = .ok (.invokevirtual 308, 3) := by decide +kernel
theorem dL_law__3330 : decode cL_law_ 3330 = .ok (.if_icmp .eq 5, 3) := by decide +kernel
theorem dL_law__3333 : decode cL_law_ 3333 = .ok (.iconst 0, 1) := by decide +kernel
theorem dL_law__3334 : decode cL_law_ 3334 = .ok (.ireturn, 1) := by decide +kernel
theorem dL_law__3335 : decode cL_law_ 3335 = .ok (.iinc 4 7, 3) := by decide +kernel
theorem dL_law__3338 : decode cL_law_ 3338 = .ok (.goto (-3315), 3) := by decide +kernel
theorem dL_law__3341 : decode cL_law_ 3341 = .ok (.iconst 1, 1) := by decide +kernel
theorem dL_law__3342 : decode cL_law_ 3342 = .ok (.ireturn, 1) := by decide +kernel
