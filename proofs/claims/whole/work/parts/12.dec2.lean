theorem dX11_matches_18 : decode cX11_matches 18 = .ok (.goto 4, 3) := by decide +kernel
theorem dX11_matches_21 : decode cX11_matches 21 = .ok (.iconst (-1), 1) := by decide +kernel
theorem dX11_matches_22 : decode cX11_matches 22 = .ok (.ireturn, 1) := by decide +kernel
theorem dX11_job_0 : decode cX11_job 0 = .ok (.aload_n 0, 1) := by decide +kernel
theorem dX11_job_1 : decode cX11_job 1 = .ok (.getfield 19, 3) := by decide +kernel
theorem dX11_job_4 : decode cX11_job 4 = .ok (.iload_n 1, 1) := by decide +kernel
theorem dX11_job_5 : decode cX11_job 5 = .ok (.iload_n 2, 1) := by decide +kernel
theorem dX11_job_6 : decode cX11_job 6 = .ok (.iload_n 3, 1) := by decide +kernel
theorem dX11_job_7 : decode cX11_job 7 = .ok (.iload 4, 2) := by decide +kernel
theorem dX11_job_9 : decode cX11_job 9 = .ok (.iload 5, 2) := by decide +kernel
theorem dX11_job_11 : decode cX11_job 11 = .ok (.iload 6, 2) := by decide +kernel
theorem dX11_job_13 : decode cX11_job 13 = .ok (.aload_n 0, 1) := by decide +kernel
theorem dX11_job_14 : decode cX11_job 14 = .ok (.getfield 76, 3) := by decide +kernel
theorem dX11_job_17 : decode cX11_job 17 = .ok (.invokevirtual 118, 3) := by decide +kernel
theorem dX11_job_20 : decode cX11_job 20 = .ok (.ireturn, 1) := by decide +kernel
theorem dX11_drop_0 : decode cX11_drop 0 = .ok (.aload_n 0, 1) := by decide +kernel
theorem dX11_drop_1 : decode cX11_drop 1 = .ok (.getfield 19, 3) := by decide +kernel
theorem dX11_drop_4 : decode cX11_drop 4 = .ok (.iload_n 1, 1) := by decide +kernel
theorem dX11_drop_5 : decode cX11_drop 5 = .ok (.invokevirtual 121, 3) := by decide +kernel
theorem dX11_drop_8 : decode cX11_drop 8 = .ok (.ireturn, 1) := by decide +kernel
theorem dX11_of_0 : decode cX11_of 0 = .ok (.aload_n 0, 1) := by decide +kernel
theorem dX11_of_1 : decode cX11_of 1 = .ok (.getfield 19, 3) := by decide +kernel
theorem dX11_of_4 : decode cX11_of 4 = .ok (.iload_n 1, 1) := by decide +kernel
theorem dX11_of_5 : decode cX11_of 5 = .ok (.invokevirtual 124, 3) := by decide +kernel
theorem dX11_of_8 : decode cX11_of 8 = .ok (.astore_n 3, 1) := by decide +kernel
theorem dX11_of_9 : decode cX11_of 9 = .ok (.aload_n 3, 1) := by decide +kernel
theorem dX11_of_10 : decode cX11_of 10 = .ok (.ifnonnull 5, 3) := by decide +kernel
theorem dX11_of_13 : decode cX11_of 13 = .ok (.iconst (-1), 1) := by decide +kernel
theorem dX11_of_14 : decode cX11_of 14 = .ok (.ireturn, 1) := by decide +kernel
theorem dX11_of_15 : decode cX11_of 15 = .ok (.iload_n 2, 1) := by decide +kernel
theorem dX11_of_16 : decode cX11_of 16 = .ok (.tableswitch 67 0 3 #[32, 41, 46, 59], 32) := by decide +kernel
theorem dX11_of_48 : decode cX11_of 48 = .ok (.aload_n 0, 1) := by decide +kernel
theorem dX11_of_49 : decode cX11_of 49 = .ok (.getfield 19, 3) := by decide +kernel
theorem dX11_of_52 : decode cX11_of 52 = .ok (.aload_n 3, 1) := by decide +kernel
theorem dX11_of_53 : decode cX11_of 53 = .ok (.invokevirtual 128, 3) := by decide +kernel
theorem dX11_of_56 : decode cX11_of 56 = .ok (.ireturn, 1) := by decide +kernel
theorem dX11_of_57 : decode cX11_of 57 = .ok (.aload_n 3, 1) := by decide +kernel
theorem dX11_of_58 : decode cX11_of 58 = .ok (.getfield 132, 3) := by decide +kernel
theorem dX11_of_61 : decode cX11_of 61 = .ok (.ireturn, 1) := by decide +kernel
theorem dX11_of_62 : decode cX11_of 62 = .ok (.aload_n 3, 1) := by decide +kernel
theorem dX11_of_63 : decode cX11_of 63 = .ok (.getfield 138, 3) := by decide +kernel
theorem dX11_of_66 : decode cX11_of 66 = .ok (.ifCond .eq 7, 3) := by decide +kernel
theorem dX11_of_69 : decode cX11_of 69 = .ok (.iconst 1, 1) := by decide +kernel
theorem dX11_of_70 : decode cX11_of 70 = .ok (.goto 4, 3) := by decide +kernel
theorem dX11_of_73 : decode cX11_of 73 = .ok (.iconst 0, 1) := by decide +kernel
theorem dX11_of_74 : decode cX11_of 74 = .ok (.ireturn, 1) := by decide +kernel
theorem dX11_of_75 : decode cX11_of 75 = .ok (.aload_n 3, 1) := by decide +kernel
theorem dX11_of_76 : decode cX11_of 76 = .ok (.getfield 142, 3) := by decide +kernel
theorem dX11_of_79 : decode cX11_of 79 = .ok (.invokevirtual 145, 3) := by decide +kernel
theorem dX11_of_82 : decode cX11_of 82 = .ok (.ireturn, 1) := by decide +kernel
theorem dX11_of_83 : decode cX11_of 83 = .ok (.iconst (-1), 1) := by decide +kernel
theorem dX11_of_84 : decode cX11_of 84 = .ok (.ireturn, 1) := by decide +kernel
theorem dX11_behind_0 : decode cX11_behind 0 = .ok (.aload_n 0, 1) := by decide +kernel
theorem dX11_behind_1 : decode cX11_behind 1 = .ok (.getfield 19, 3) := by decide +kernel
theorem dX11_behind_4 : decode cX11_behind 4 = .ok (.iload_n 1, 1) := by decide +kernel
theorem dX11_behind_5 : decode cX11_behind 5 = .ok (.invokevirtual 149, 3) := by decide +kernel
theorem dX11_behind_8 : decode cX11_behind 8 = .ok (.astore_n 3, 1) := by decide +kernel
theorem dX11_behind_9 : decode cX11_behind 9 = .ok (.aload_n 0, 1) := by decide +kernel
theorem dX11_behind_10 : decode cX11_behind 10 = .ok (.getfield 19, 3) := by decide +kernel
theorem dX11_behind_13 : decode cX11_behind 13 = .ok (.iload_n 2, 1) := by decide +kernel
theorem dX11_behind_14 : decode cX11_behind 14 = .ok (.invokevirtual 149, 3) := by decide +kernel
theorem dX11_behind_17 : decode cX11_behind 17 = .ok (.astore 4, 2) := by decide +kernel
theorem dX11_behind_19 : decode cX11_behind 19 = .ok (.iload_n 1, 1) := by decide +kernel
theorem dX11_behind_20 : decode cX11_behind 20 = .ok (.iload_n 2, 1) := by decide +kernel
theorem dX11_behind_21 : decode cX11_behind 21 = .ok (.if_icmp .eq 29, 3) := by decide +kernel
theorem dX11_behind_24 : decode cX11_behind 24 = .ok (.aload_n 3, 1) := by decide +kernel
theorem dX11_behind_25 : decode cX11_behind 25 = .ok (.ifnull 25, 3) := by decide +kernel
theorem dX11_behind_28 : decode cX11_behind 28 = .ok (.aload 4, 2) := by decide +kernel
theorem dX11_behind_30 : decode cX11_behind 30 = .ok (.ifnull 20, 3) := by decide +kernel
theorem dX11_behind_33 : decode cX11_behind 33 = .ok (.aload_n 0, 1) := by decide +kernel
theorem dX11_behind_34 : decode cX11_behind 34 = .ok (.getfield 19, 3) := by decide +kernel
theorem dX11_behind_37 : decode cX11_behind 37 = .ok (.aload_n 3, 1) := by decide +kernel
theorem dX11_behind_38 : decode cX11_behind 38 = .ok (.aload 4, 2) := by decide +kernel
theorem dX11_behind_40 : decode cX11_behind 40 = .ok (.invokevirtual 152, 3) := by decide +kernel
theorem dX11_behind_43 : decode cX11_behind 43 = .ok (.ifCond .eq 7, 3) := by decide +kernel
theorem dX11_behind_46 : decode cX11_behind 46 = .ok (.iconst 1, 1) := by decide +kernel
theorem dX11_behind_47 : decode cX11_behind 47 = .ok (.goto 4, 3) := by decide +kernel
theorem dX11_behind_50 : decode cX11_behind 50 = .ok (.iconst 0, 1) := by decide +kernel
theorem dX11_behind_51 : decode cX11_behind 51 = .ok (.ireturn, 1) := by decide +kernel
theorem dX11_empty_0 : decode cX11_empty 0 = .ok (.aload_n 0, 1) := by decide +kernel
theorem dX11_empty_1 : decode cX11_empty 1 = .ok (.getfield 28, 3) := by decide +kernel
theorem dX11_empty_4 : decode cX11_empty 4 = .ok (.invokevirtual 156, 3) := by decide +kernel
theorem dX11_empty_7 : decode cX11_empty 7 = .ok (.aload_n 0, 1) := by decide +kernel
theorem dX11_empty_8 : decode cX11_empty 8 = .ok (.getfield 28, 3) := by decide +kernel
theorem dX11_empty_11 : decode cX11_empty 11 = .ok (.getfield 159, 3) := by decide +kernel
theorem dX11_empty_14 : decode cX11_empty 14 = .ok (.ireturn, 1) := by decide +kernel
theorem dX11_chains_0 : decode cX11_chains 0 = .ok (.aload_n 0, 1) := by decide +kernel
theorem dX11_chains_1 : decode cX11_chains 1 = .ok (.getfield 28, 3) := by decide +kernel
theorem dX11_chains_4 : decode cX11_chains 4 = .ok (.invokevirtual 156, 3) := by decide +kernel
theorem dX11_chains_7 : decode cX11_chains 7 = .ok (.aload_n 0, 1) := by decide +kernel
theorem dX11_chains_8 : decode cX11_chains 8 = .ok (.getfield 28, 3) := by decide +kernel
theorem dX11_chains_11 : decode cX11_chains 11 = .ok (.getfield 162, 3) := by decide +kernel
theorem dX11_chains_14 : decode cX11_chains 14 = .ok (.ireturn, 1) := by decide +kernel
theorem dX11_chain_0 : decode cX11_chain 0 = .ok (.aload_n 0, 1) := by decide +kernel
theorem dX11_chain_1 : decode cX11_chain 1 = .ok (.getfield 28, 3) := by decide +kernel
theorem dX11_chain_4 : decode cX11_chain 4 = .ok (.invokevirtual 156, 3) := by decide +kernel
theorem dX11_chain_7 : decode cX11_chain 7 = .ok (.aload_n 0, 1) := by decide +kernel
theorem dX11_chain_8 : decode cX11_chain 8 = .ok (.getfield 28, 3) := by decide +kernel
theorem dX11_chain_11 : decode cX11_chain 11 = .ok (.iload_n 1, 1) := by decide +kernel
theorem dX11_chain_12 : decode cX11_chain 12 = .ok (.invokevirtual 165, 3) := by decide +kernel
theorem dX11_chain_15 : decode cX11_chain 15 = .ok (.ireturn, 1) := by decide +kernel
theorem dX11_team_0 : decode cX11_team 0 = .ok (.aload_n 0, 1) := by decide +kernel
theorem dX11_team_1 : decode cX11_team 1 = .ok (.getfield 37, 3) := by decide +kernel
theorem dX11_team_4 : decode cX11_team 4 = .ok (.iload_n 1, 1) := by decide +kernel
theorem dX11_team_5 : decode cX11_team 5 = .ok (.iload_n 2, 1) := by decide +kernel
theorem dX11_team_6 : decode cX11_team 6 = .ok (.invokevirtual 168, 3) := by decide +kernel
theorem dX11_team_9 : decode cX11_team 9 = .ok (.ireturn, 1) := by decide +kernel
theorem dX11_right_0 : decode cX11_right 0 = .ok (.aload_n 0, 1) := by decide +kernel
theorem dX11_right_1 : decode cX11_right 1 = .ok (.getfield 37, 3) := by decide +kernel
theorem dX11_right_4 : decode cX11_right 4 = .ok (.iload_n 1, 1) := by decide +kernel
theorem dX11_right_5 : decode cX11_right 5 = .ok (.invokevirtual 171, 3) := by decide +kernel
theorem dX11_right_8 : decode cX11_right 8 = .ok (.ireturn, 1) := by decide +kernel
theorem dX11_strength_0 : decode cX11_strength 0 = .ok (.aload_n 0, 1) := by decide +kernel
theorem dX11_strength_1 : decode cX11_strength 1 = .ok (.getfield 37, 3) := by decide +kernel
theorem dX11_strength_4 : decode cX11_strength 4 = .ok (.iload_n 1, 1) := by decide +kernel
theorem dX11_strength_5 : decode cX11_strength 5 = .ok (.iload_n 2, 1) := by decide +kernel
theorem dX11_strength_6 : decode cX11_strength 6 = .ok (.invokevirtual 174, 3) := by decide +kernel
theorem dX11_strength_9 : decode cX11_strength 9 = .ok (.ifCond .eq 15, 3) := by decide +kernel
theorem dX11_strength_12 : decode cX11_strength 12 = .ok (.aload_n 0, 1) := by decide +kernel
theorem dX11_strength_13 : decode cX11_strength 13 = .ok (.getfield 37, 3) := by decide +kernel
theorem dX11_strength_16 : decode cX11_strength 16 = .ok (.iload_n 1, 1) := by decide +kernel
theorem dX11_strength_17 : decode cX11_strength 17 = .ok (.iload_n 2, 1) := by decide +kernel
theorem dX11_strength_18 : decode cX11_strength 18 = .ok (.invokevirtual 177, 3) := by decide +kernel
theorem dX11_strength_21 : decode cX11_strength 21 = .ok (.goto 4, 3) := by decide +kernel
theorem dX11_strength_24 : decode cX11_strength 24 = .ok (.iconst (-1), 1) := by decide +kernel
theorem dX11_strength_25 : decode cX11_strength 25 = .ok (.ireturn, 1) := by decide +kernel
theorem dX11_standIn_0 : decode cX11_standIn 0 = .ok (.aload_n 0, 1) := by decide +kernel
theorem dX11_standIn_1 : decode cX11_standIn 1 = .ok (.getfield 37, 3) := by decide +kernel
theorem dX11_standIn_4 : decode cX11_standIn 4 = .ok (.iload_n 1, 1) := by decide +kernel
theorem dX11_standIn_5 : decode cX11_standIn 5 = .ok (.iload_n 2, 1) := by decide +kernel
theorem dX11_standIn_6 : decode cX11_standIn 6 = .ok (.invokevirtual 174, 3) := by decide +kernel
theorem dX11_standIn_9 : decode cX11_standIn 9 = .ok (.ifCond .eq 15, 3) := by decide +kernel
theorem dX11_standIn_12 : decode cX11_standIn 12 = .ok (.aload_n 0, 1) := by decide +kernel
theorem dX11_standIn_13 : decode cX11_standIn 13 = .ok (.getfield 37, 3) := by decide +kernel
theorem dX11_standIn_16 : decode cX11_standIn 16 = .ok (.iload_n 1, 1) := by decide +kernel
theorem dX11_standIn_17 : decode cX11_standIn 17 = .ok (.iload_n 2, 1) := by decide +kernel
theorem dX11_standIn_18 : decode cX11_standIn 18 = .ok (.invokevirtual 181, 3) := by decide +kernel
theorem dX11_standIn_21 : decode cX11_standIn 21 = .ok (.goto 4, 3) := by decide +kernel
theorem dX11_standIn_24 : decode cX11_standIn 24 = .ok (.iconst (-1), 1) := by decide +kernel
theorem dX11_standIn_25 : decode cX11_standIn 25 = .ok (.ireturn, 1) := by decide +kernel
theorem dX11_feed_0 : decode cX11_feed 0 = .ok (.aload_n 0, 1) := by decide +kernel
theorem dX11_feed_1 : decode cX11_feed 1 = .ok (.getfield 44, 3) := by decide +kernel
theorem dX11_feed_4 : decode cX11_feed 4 = .ok (.iload_n 1, 1) := by decide +kernel
theorem dX11_feed_5 : decode cX11_feed 5 = .ok (.iload_n 2, 1) := by decide +kernel
theorem dX11_feed_6 : decode cX11_feed 6 = .ok (.iload_n 3, 1) := by decide +kernel
theorem dX11_feed_7 : decode cX11_feed 7 = .ok (.iload 4, 2) := by decide +kernel
theorem dX11_feed_9 : decode cX11_feed 9 = .ok (.iload 5, 2) := by decide +kernel
theorem dX11_feed_11 : decode cX11_feed 11 = .ok (.invokevirtual 184, 3) := by decide +kernel
theorem dX11_feed_14 : decode cX11_feed 14 = .ok (.ireturn, 1) := by decide +kernel
theorem dX11_end_0 : decode cX11_end 0 = .ok (.aload_n 0, 1) := by decide +kernel
theorem dX11_end_1 : decode cX11_end 1 = .ok (.getfield 44, 3) := by decide +kernel
theorem dX11_end_4 : decode cX11_end 4 = .ok (.iload_n 1, 1) := by decide +kernel
theorem dX11_end_5 : decode cX11_end 5 = .ok (.invokevirtual 188, 3) := by decide +kernel
theorem dX11_end_8 : decode cX11_end 8 = .ok (.ireturn, 1) := by decide +kernel
theorem dX11_prices_0 : decode cX11_prices 0 = .ok (.aload_n 0, 1) := by decide +kernel
theorem dX11_prices_1 : decode cX11_prices 1 = .ok (.getfield 53, 3) := by decide +kernel
theorem dX11_prices_4 : decode cX11_prices 4 = .ok (.invokevirtual 191, 3) := by decide +kernel
theorem dX11_prices_7 : decode cX11_prices 7 = .ok (.astore_n 1, 1) := by decide +kernel
theorem dX11_prices_8 : decode cX11_prices 8 = .ok (.aload_n 0, 1) := by decide +kernel
theorem dX11_prices_9 : decode cX11_prices 9 = .ok (.getfield 44, 3) := by decide +kernel
theorem dX11_prices_12 : decode cX11_prices 12 = .ok (.iconst 0, 1) := by decide +kernel
theorem dX11_prices_13 : decode cX11_prices 13 = .ok (.invokevirtual 188, 3) := by decide +kernel
theorem dX11_prices_16 : decode cX11_prices 16 = .ok (.pop, 1) := by decide +kernel
theorem dX11_prices_17 : decode cX11_prices 17 = .ok (.aload_n 1, 1) := by decide +kernel
theorem dX11_prices_18 : decode cX11_prices 18 = .ok (.ifnonnull 5, 3) := by decide +kernel
theorem dX11_prices_21 : decode cX11_prices 21 = .ok (.iconst (-1), 1) := by decide +kernel
theorem dX11_prices_22 : decode cX11_prices 22 = .ok (.ireturn, 1) := by decide +kernel
theorem dX11_prices_23 : decode cX11_prices 23 = .ok (.aload_n 0, 1) := by decide +kernel
theorem dX11_prices_24 : decode cX11_prices 24 = .ok (.aload_n 1, 1) := by decide +kernel
theorem dX11_prices_25 : decode cX11_prices 25 = .ok (.putfield 76, 3) := by decide +kernel
theorem dX11_prices_28 : decode cX11_prices 28 = .ok (.aload_n 1, 1) := by decide +kernel
theorem dX11_prices_29 : decode cX11_prices 29 = .ok (.invokevirtual 145, 3) := by decide +kernel
theorem dX11_prices_32 : decode cX11_prices 32 = .ok (.ireturn, 1) := by decide +kernel
theorem dX11_fault_0 : decode cX11_fault 0 = .ok (.iload_n 1, 1) := by decide +kernel
theorem dX11_fault_1 : decode cX11_fault 1 = .ok (.lookupswitch 43 #[(0, 27), (1, 35)], 27) := by decide +kernel
theorem dX11_fault_28 : decode cX11_fault 28 = .ok (.aload_n 0, 1) := by decide +kernel
theorem dX11_fault_29 : decode cX11_fault 29 = .ok (.getfield 53, 3) := by decide +kernel
theorem dX11_fault_32 : decode cX11_fault 32 = .ok (.getfield 195, 3) := by decide +kernel
theorem dX11_fault_35 : decode cX11_fault 35 = .ok (.ireturn, 1) := by decide +kernel
theorem dX11_fault_36 : decode cX11_fault 36 = .ok (.aload_n 0, 1) := by decide +kernel
theorem dX11_fault_37 : decode cX11_fault 37 = .ok (.getfield 53, 3) := by decide +kernel
theorem dX11_fault_40 : decode cX11_fault 40 = .ok (.getfield 198, 3) := by decide +kernel
theorem dX11_fault_43 : decode cX11_fault 43 = .ok (.ireturn, 1) := by decide +kernel
theorem dX11_fault_44 : decode cX11_fault 44 = .ok (.iconst (-1), 1) := by decide +kernel
theorem dX11_fault_45 : decode cX11_fault 45 = .ok (.ireturn, 1) := by decide +kernel
theorem dX11_price_0 : decode cX11_price 0 = .ok (.aload_n 0, 1) := by decide +kernel
theorem dX11_price_1 : decode cX11_price 1 = .ok (.getfield 19, 3) := by decide +kernel
theorem dX11_price_4 : decode cX11_price 4 = .ok (.iload_n 1, 1) := by decide +kernel
theorem dX11_price_5 : decode cX11_price 5 = .ok (.invokevirtual 124, 3) := by decide +kernel
theorem dX11_price_8 : decode cX11_price 8 = .ok (.astore_n 3, 1) := by decide +kernel
theorem dX11_price_9 : decode cX11_price 9 = .ok (.aload_n 3, 1) := by decide +kernel
theorem dX11_price_10 : decode cX11_price 10 = .ok (.ifnull 14, 3) := by decide +kernel
theorem dX11_price_13 : decode cX11_price 13 = .ok (.iload_n 2, 1) := by decide +kernel
theorem dX11_price_14 : decode cX11_price 14 = .ok (.iconst 0, 1) := by decide +kernel
theorem dX11_price_15 : decode cX11_price 15 = .ok (.sipush 1000, 3) := by decide +kernel
theorem dX11_price_18 : decode cX11_price 18 = .ok (.invokestatic 201, 3) := by decide +kernel
theorem dX11_price_21 : decode cX11_price 21 = .ok (.ifCond .ne 5, 3) := by decide +kernel
theorem dX11_price_24 : decode cX11_price 24 = .ok (.iconst 0, 1) := by decide +kernel
theorem dX11_price_25 : decode cX11_price 25 = .ok (.ireturn, 1) := by decide +kernel
theorem dX11_price_26 : decode cX11_price 26 = .ok (.aload_n 0, 1) := by decide +kernel
theorem dX11_price_27 : decode cX11_price 27 = .ok (.getfield 60, 3) := by decide +kernel
theorem dX11_price_30 : decode cX11_price 30 = .ok (.aload_n 3, 1) := by decide +kernel
theorem dX11_price_31 : decode cX11_price 31 = .ok (.aload_n 0, 1) := by decide +kernel
theorem dX11_price_32 : decode cX11_price 32 = .ok (.getfield 19, 3) := by decide +kernel
theorem dX11_price_35 : decode cX11_price 35 = .ok (.aload_n 3, 1) := by decide +kernel
theorem dX11_price_36 : decode cX11_price 36 = .ok (.getfield 204, 3) := by decide +kernel
theorem dX11_price_39 : decode cX11_price 39 = .ok (.aload_n 3, 1) := by decide +kernel
theorem dX11_price_40 : decode cX11_price 40 = .ok (.getfield 207, 3) := by decide +kernel
theorem dX11_price_43 : decode cX11_price 43 = .ok (.invokevirtual 210, 3) := by decide +kernel
theorem dX11_price_46 : decode cX11_price 46 = .ok (.iload_n 2, 1) := by decide +kernel
theorem dX11_price_47 : decode cX11_price 47 = .ok (.invokevirtual 213, 3) := by decide +kernel
theorem dX11_price_50 : decode cX11_price 50 = .ok (.ireturn, 1) := by decide +kernel
theorem dX11_broken_0 : decode cX11_broken 0 = .ok (.aload_n 0, 1) := by decide +kernel
theorem dX11_broken_1 : decode cX11_broken 1 = .ok (.getfield 67, 3) := by decide +kernel
theorem dX11_broken_4 : decode cX11_broken 4 = .ok (.iload_n 1, 1) := by decide +kernel
theorem dX11_broken_5 : decode cX11_broken 5 = .ok (.iload_n 2, 1) := by decide +kernel
theorem dX11_broken_6 : decode cX11_broken 6 = .ok (.iload_n 3, 1) := by decide +kernel
theorem dX11_broken_7 : decode cX11_broken 7 = .ok (.iload 4, 2) := by decide +kernel
theorem dX11_broken_9 : decode cX11_broken 9 = .ok (.invokevirtual 217, 3) := by decide +kernel
theorem dX11_broken_12 : decode cX11_broken 12 = .ok (.ireturn, 1) := by decide +kernel
theorem dX11_untell_0 : decode cX11_untell 0 = .ok (.aload_n 0, 1) := by decide +kernel
theorem dX11_untell_1 : decode cX11_untell 1 = .ok (.getfield 67, 3) := by decide +kernel
theorem dX11_untell_4 : decode cX11_untell 4 = .ok (.iload_n 1, 1) := by decide +kernel
theorem dX11_untell_5 : decode cX11_untell 5 = .ok (.iload_n 2, 1) := by decide +kernel
theorem dX11_untell_6 : decode cX11_untell 6 = .ok (.invokevirtual 220, 3) := by decide +kernel
theorem dX11_untell_9 : decode cX11_untell 9 = .ok (.ireturn, 1) := by decide +kernel
theorem dX11_whole_0 : decode cX11_whole 0 = .ok (.aload_n 0, 1) := by decide +kernel
theorem dX11_whole_1 : decode cX11_whole 1 = .ok (.getfield 67, 3) := by decide +kernel
theorem dX11_whole_4 : decode cX11_whole 4 = .ok (.iload_n 1, 1) := by decide +kernel
theorem dX11_whole_5 : decode cX11_whole 5 = .ok (.iload_n 2, 1) := by decide +kernel
theorem dX11_whole_6 : decode cX11_whole 6 = .ok (.iload_n 3, 1) := by decide +kernel
theorem dX11_whole_7 : decode cX11_whole 7 = .ok (.invokevirtual 223, 3) := by decide +kernel
theorem dX11_whole_10 : decode cX11_whole 10 = .ok (.ireturn, 1) := by decide +kernel
theorem dX11_free_0 : decode cX11_free 0 = .ok (.aload_n 0, 1) := by decide +kernel
theorem dX11_free_1 : decode cX11_free 1 = .ok (.getfield 67, 3) := by decide +kernel
theorem dX11_free_4 : decode cX11_free 4 = .ok (.iload_n 1, 1) := by decide +kernel
theorem dX11_free_5 : decode cX11_free 5 = .ok (.iload_n 2, 1) := by decide +kernel
theorem dX11_free_6 : decode cX11_free 6 = .ok (.iload_n 3, 1) := by decide +kernel
theorem dX11_free_7 : decode cX11_free 7 = .ok (.iload 4, 2) := by decide +kernel
theorem dX11_free_9 : decode cX11_free 9 = .ok (.invokevirtual 227, 3) := by decide +kernel
theorem dX11_free_12 : decode cX11_free 12 = .ok (.ireturn, 1) := by decide +kernel
theorem dX11_about_0 : decode cX11_about 0 = .ok (.iload_n 1, 1) := by decide +kernel
theorem dX11_about_1 : decode cX11_about 1 = .ok (.tableswitch 87 0 5 #[39, 47, 55, 63, 71, 79], 39) := by decide +kernel
theorem dX11_about_40 : decode cX11_about 40 = .ok (.aload_n 0, 1) := by decide +kernel
theorem dX11_about_41 : decode cX11_about 41 = .ok (.getfield 10, 3) := by decide +kernel
theorem dX11_about_44 : decode cX11_about 44 = .ok (.getfield 230, 3) := by decide +kernel
theorem dX11_about_47 : decode cX11_about 47 = .ok (.ireturn, 1) := by decide +kernel
theorem dX11_about_48 : decode cX11_about 48 = .ok (.aload_n 0, 1) := by decide +kernel
theorem dX11_about_49 : decode cX11_about 49 = .ok (.getfield 19, 3) := by decide +kernel
theorem dX11_about_52 : decode cX11_about 52 = .ok (.getfield 233, 3) := by decide +kernel
theorem dX11_about_55 : decode cX11_about 55 = .ok (.ireturn, 1) := by decide +kernel
theorem dX11_about_56 : decode cX11_about 56 = .ok (.aload_n 0, 1) := by decide +kernel
theorem dX11_about_57 : decode cX11_about 57 = .ok (.getfield 19, 3) := by decide +kernel
theorem dX11_about_60 : decode cX11_about 60 = .ok (.getfield 234, 3) := by decide +kernel
theorem dX11_about_63 : decode cX11_about 63 = .ok (.ireturn, 1) := by decide +kernel
theorem dX11_about_64 : decode cX11_about 64 = .ok (.aload_n 0, 1) := by decide +kernel
theorem dX11_about_65 : decode cX11_about 65 = .ok (.getfield 76, 3) := by decide +kernel
theorem dX11_about_68 : decode cX11_about 68 = .ok (.invokevirtual 145, 3) := by decide +kernel
theorem dX11_about_71 : decode cX11_about 71 = .ok (.ireturn, 1) := by decide +kernel
theorem dX11_about_72 : decode cX11_about 72 = .ok (.aload_n 0, 1) := by decide +kernel
theorem dX11_about_73 : decode cX11_about 73 = .ok (.getfield 67, 3) := by decide +kernel
theorem dX11_about_76 : decode cX11_about 76 = .ok (.getfield 237, 3) := by decide +kernel
theorem dX11_about_79 : decode cX11_about 79 = .ok (.ireturn, 1) := by decide +kernel
theorem dX11_about_80 : decode cX11_about 80 = .ok (.aload_n 0, 1) := by decide +kernel
theorem dX11_about_81 : decode cX11_about 81 = .ok (.getfield 44, 3) := by decide +kernel
theorem dX11_about_84 : decode cX11_about 84 = .ok (.getfield 238, 3) := by decide +kernel
theorem dX11_about_87 : decode cX11_about 87 = .ok (.ireturn, 1) := by decide +kernel
theorem dX11_about_88 : decode cX11_about 88 = .ok (.iconst (-1), 1) := by decide +kernel
theorem dX11_about_89 : decode cX11_about 89 = .ok (.ireturn, 1) := by decide +kernel
theorem dX11_within_0 : decode cX11_within 0 = .ok (.iload_n 0, 1) := by decide +kernel
theorem dX11_within_1 : decode cX11_within 1 = .ok (.iload_n 1, 1) := by decide +kernel
theorem dX11_within_2 : decode cX11_within 2 = .ok (.if_icmp .lt 12, 3) := by decide +kernel
theorem dX11_within_5 : decode cX11_within 5 = .ok (.iload_n 0, 1) := by decide +kernel
theorem dX11_within_6 : decode cX11_within 6 = .ok (.iload_n 2, 1) := by decide +kernel
theorem dX11_within_7 : decode cX11_within 7 = .ok (.if_icmp .gt 7, 3) := by decide +kernel
theorem dX11_within_10 : decode cX11_within 10 = .ok (.iconst 1, 1) := by decide +kernel
theorem dX11_within_11 : decode cX11_within 11 = .ok (.goto 4, 3) := by decide +kernel
theorem dX11_within_14 : decode cX11_within 14 = .ok (.iconst 0, 1) := by decide +kernel
theorem dX11_within_15 : decode cX11_within 15 = .ok (.ireturn, 1) := by decide +kernel
theorem dX11_hasBit_0 : decode cX11_hasBit 0 = .ok (.iload_n 0, 1) := by decide +kernel
theorem dX11_hasBit_1 : decode cX11_hasBit 1 = .ok (.iload_n 1, 1) := by decide +kernel
theorem dX11_hasBit_2 : decode cX11_hasBit 2 = .ok (.iushr, 1) := by decide +kernel
theorem dX11_hasBit_3 : decode cX11_hasBit 3 = .ok (.iconst 1, 1) := by decide +kernel
theorem dX11_hasBit_4 : decode cX11_hasBit 4 = .ok (.iand, 1) := by decide +kernel
theorem dX11_hasBit_5 : decode cX11_hasBit 5 = .ok (.ifCond .eq 7, 3) := by decide +kernel
theorem dX11_hasBit_8 : decode cX11_hasBit 8 = .ok (.iconst 1, 1) := by decide +kernel
theorem dX11_hasBit_9 : decode cX11_hasBit 9 = .ok (.goto 4, 3) := by decide +kernel
theorem dX11_hasBit_12 : decode cX11_hasBit 12 = .ok (.iconst 0, 1) := by decide +kernel
theorem dX11_hasBit_13 : decode cX11_hasBit 13 = .ok (.ireturn, 1) := by decide +kernel
theorem dX12_init_0 : decode cX12_init 0 = .ok (.aload_n 0, 1) := by decide +kernel
theorem dX12_init_1 : decode cX12_init 1 = .ok (.invokespecial 1, 3) := by decide +kernel
theorem dX12_init_4 : decode cX12_init 4 = .ok (.aload_n 0, 1) := by decide +kernel
theorem dX12_init_5 : decode cX12_init 5 = .ok (.iconst 5, 1) := by decide +kernel
theorem dX12_init_6 : decode cX12_init 6 = .ok (.putfield 7, 3) := by decide +kernel
theorem dX12_init_9 : decode cX12_init 9 = .ok (.aload_n 0, 1) := by decide +kernel
theorem dX12_init_10 : decode cX12_init 10 = .ok (.iconst 2, 1) := by decide +kernel
theorem dX12_init_11 : decode cX12_init 11 = .ok (.putfield 13, 3) := by decide +kernel
theorem dX12_init_14 : decode cX12_init 14 = .ok (.aload_n 0, 1) := by decide +kernel
theorem dX12_init_15 : decode cX12_init 15 = .ok (.iconst 2, 1) := by decide +kernel
theorem dX12_init_16 : decode cX12_init 16 = .ok (.putfield 16, 3) := by decide +kernel
theorem dX12_init_19 : decode cX12_init 19 = .ok (.aload_n 0, 1) := by decide +kernel
theorem dX12_init_20 : decode cX12_init 20 = .ok (.bipush 16, 2) := by decide +kernel
theorem dX12_init_22 : decode cX12_init 22 = .ok (.newarray .int, 2) := by decide +kernel
theorem dX12_init_24 : decode cX12_init 24 = .ok (.putfield 19, 3) := by decide +kernel
theorem dX12_init_27 : decode cX12_init 27 = .ok (.aload_n 0, 1) := by decide +kernel
theorem dX12_init_28 : decode cX12_init 28 = .ok (.bipush 16, 2) := by decide +kernel
theorem dX12_init_30 : decode cX12_init 30 = .ok (.newarray .int, 2) := by decide +kernel
theorem dX12_init_32 : decode cX12_init 32 = .ok (.putfield 23, 3) := by decide +kernel
theorem dX12_init_35 : decode cX12_init 35 = .ok (.aload_n 0, 1) := by decide +kernel
theorem dX12_init_36 : decode cX12_init 36 = .ok (.bipush 16, 2) := by decide +kernel
theorem dX12_init_38 : decode cX12_init 38 = .ok (.newarray .int, 2) := by decide +kernel
theorem dX12_init_40 : decode cX12_init 40 = .ok (.putfield 26, 3) := by decide +kernel
theorem dX12_init_43 : decode cX12_init 43 = .ok (.aload_n 0, 1) := by decide +kernel
theorem dX12_init_44 : decode cX12_init 44 = .ok (.bipush 16, 2) := by decide +kernel
theorem dX12_init_46 : decode cX12_init 46 = .ok (.newarray .int, 2) := by decide +kernel
theorem dX12_init_48 : decode cX12_init 48 = .ok (.putfield 29, 3) := by decide +kernel
theorem dX12_init_51 : decode cX12_init 51 = .ok (.aload_n 0, 1) := by decide +kernel
theorem dX12_init_52 : decode cX12_init 52 = .ok (.bipush 16, 2) := by decide +kernel
theorem dX12_init_54 : decode cX12_init 54 = .ok (.newarray .boolean, 2) := by decide +kernel
theorem dX12_init_56 : decode cX12_init 56 = .ok (.putfield 32, 3) := by decide +kernel
theorem dX12_init_59 : decode cX12_init 59 = .ok (.aload_n 0, 1) := by decide +kernel
theorem dX12_init_60 : decode cX12_init 60 = .ok (.bipush 64, 2) := by decide +kernel
theorem dX12_init_62 : decode cX12_init 62 = .ok (.newarray .int, 2) := by decide +kernel
theorem dX12_init_64 : decode cX12_init 64 = .ok (.putfield 36, 3) := by decide +kernel
theorem dX12_init_67 : decode cX12_init 67 = .ok (.aload_n 0, 1) := by decide +kernel
theorem dX12_init_68 : decode cX12_init 68 = .ok (.bipush 10, 2) := by decide +kernel
theorem dX12_init_70 : decode cX12_init 70 = .ok (.newarray .int, 2) := by decide +kernel
theorem dX12_init_72 : decode cX12_init 72 = .ok (.putfield 39, 3) := by decide +kernel
theorem dX12_init_75 : decode cX12_init 75 = .ok (.aload_n 0, 1) := by decide +kernel
theorem dX12_init_76 : decode cX12_init 76 = .ok (.bipush 10, 2) := by decide +kernel
theorem dX12_init_78 : decode cX12_init 78 = .ok (.newarray .int, 2) := by decide +kernel
theorem dX12_init_80 : decode cX12_init 80 = .ok (.putfield 42, 3) := by decide +kernel
theorem dX12_init_83 : decode cX12_init 83 = .ok (.aload_n 0, 1) := by decide +kernel
theorem dX12_init_84 : decode cX12_init 84 = .ok (.bipush 10, 2) := by decide +kernel
theorem dX12_init_86 : decode cX12_init 86 = .ok (.newarray .int, 2) := by decide +kernel
theorem dX12_init_88 : decode cX12_init 88 = .ok (.putfield 45, 3) := by decide +kernel
theorem dX12_init_91 : decode cX12_init 91 = .ok (.aload_n 0, 1) := by decide +kernel
theorem dX12_init_92 : decode cX12_init 92 = .ok (.bipush 10, 2) := by decide +kernel
theorem dX12_init_94 : decode cX12_init 94 = .ok (.newarray .int, 2) := by decide +kernel
theorem dX12_init_96 : decode cX12_init 96 = .ok (.putfield 48, 3) := by decide +kernel
theorem dX12_init_99 : decode cX12_init 99 = .ok (.aload_n 0, 1) := by decide +kernel
theorem dX12_init_100 : decode cX12_init 100 = .ok (.bipush 10, 2) := by decide +kernel
theorem dX12_init_102 : decode cX12_init 102 = .ok (.newarray .int, 2) := by decide +kernel
theorem dX12_init_104 : decode cX12_init 104 = .ok (.putfield 51, 3) := by decide +kernel
theorem dX12_init_107 : decode cX12_init 107 = .ok (.aload_n 0, 1) := by decide +kernel
theorem dX12_init_108 : decode cX12_init 108 = .ok (.bipush 10, 2) := by decide +kernel
theorem dX12_init_110 : decode cX12_init 110 = .ok (.newarray .int, 2) := by decide +kernel
theorem dX12_init_112 : decode cX12_init 112 = .ok (.putfield 54, 3) := by decide +kernel
theorem dX12_init_115 : decode cX12_init 115 = .ok (.aload_n 0, 1) := by decide +kernel
theorem dX12_init_116 : decode cX12_init 116 = .ok (.bipush 10, 2) := by decide +kernel
theorem dX12_init_118 : decode cX12_init 118 = .ok (.newarray .int, 2) := by decide +kernel
theorem dX12_init_120 : decode cX12_init 120 = .ok (.putfield 57, 3) := by decide +kernel
theorem dX12_init_123 : decode cX12_init 123 = .ok (.aload_n 0, 1) := by decide +kernel
theorem dX12_init_124 : decode cX12_init 124 = .ok (.bipush 10, 2) := by decide +kernel
theorem dX12_init_126 : decode cX12_init 126 = .ok (.newarray .boolean, 2) := by decide +kernel
theorem dX12_init_128 : decode cX12_init 128 = .ok (.putfield 60, 3) := by decide +kernel
theorem dX12_init_131 : decode cX12_init 131 = .ok (.aload_n 0, 1) := by decide +kernel
theorem dX12_init_132 : decode cX12_init 132 = .ok (.sipush 6600, 3) := by decide +kernel
theorem dX12_init_135 : decode cX12_init 135 = .ok (.newarray .int, 2) := by decide +kernel
theorem dX12_init_137 : decode cX12_init 137 = .ok (.putfield 63, 3) := by decide +kernel
theorem dX12_init_140 : decode cX12_init 140 = .ok (.aload_n 0, 1) := by decide +kernel
theorem dX12_init_141 : decode cX12_init 141 = .ok (.sipush 6600, 3) := by decide +kernel
theorem dX12_init_144 : decode cX12_init 144 = .ok (.newarray .int, 2) := by decide +kernel
theorem dX12_init_146 : decode cX12_init 146 = .ok (.putfield 66, 3) := by decide +kernel
theorem dX12_init_149 : decode cX12_init 149 = .ok (.aload_n 0, 1) := by decide +kernel
theorem dX12_init_150 : decode cX12_init 150 = .ok (.sipush 242, 3) := by decide +kernel
theorem dX12_init_153 : decode cX12_init 153 = .ok (.newarray .int, 2) := by decide +kernel
theorem dX12_init_155 : decode cX12_init 155 = .ok (.putfield 69, 3) := by decide +kernel
theorem dX12_init_158 : decode cX12_init 158 = .ok (.aload_n 0, 1) := by decide +kernel
theorem dX12_init_159 : decode cX12_init 159 = .ok (.bipush 11, 2) := by decide +kernel
theorem dX12_init_161 : decode cX12_init 161 = .ok (.newarray .int, 2) := by decide +kernel
theorem dX12_init_163 : decode cX12_init 163 = .ok (.putfield 72, 3) := by decide +kernel
theorem dX12_init_166 : decode cX12_init 166 = .ok (.aload_n 0, 1) := by decide +kernel
theorem dX12_init_167 : decode cX12_init 167 = .ok (.bipush 10, 2) := by decide +kernel
theorem dX12_init_169 : decode cX12_init 169 = .ok (.newarray .int, 2) := by decide +kernel
theorem dX12_init_171 : decode cX12_init 171 = .ok (.putfield 75, 3) := by decide +kernel
theorem dX12_init_174 : decode cX12_init 174 = .ok (.aload_n 0, 1) := by decide +kernel
theorem dX12_init_175 : decode cX12_init 175 = .ok (.bipush 10, 2) := by decide +kernel
theorem dX12_init_177 : decode cX12_init 177 = .ok (.newarray .int, 2) := by decide +kernel
theorem dX12_init_179 : decode cX12_init 179 = .ok (.putfield 78, 3) := by decide +kernel
theorem dX12_init_182 : decode cX12_init 182 = .ok (.aload_n 0, 1) := by decide +kernel
theorem dX12_init_183 : decode cX12_init 183 = .ok (.bipush 10, 2) := by decide +kernel
theorem dX12_init_185 : decode cX12_init 185 = .ok (.newarray .int, 2) := by decide +kernel
theorem dX12_init_187 : decode cX12_init 187 = .ok (.putfield 81, 3) := by decide +kernel
theorem dX12_init_190 : decode cX12_init 190 = .ok (.aload_n 0, 1) := by decide +kernel
theorem dX12_init_191 : decode cX12_init 191 = .ok (.bipush 10, 2) := by decide +kernel
theorem dX12_init_193 : decode cX12_init 193 = .ok (.newarray .int, 2) := by decide +kernel
theorem dX12_init_195 : decode cX12_init 195 = .ok (.putfield 84, 3) := by decide +kernel
theorem dX12_init_198 : decode cX12_init 198 = .ok (.aload_n 0, 1) := by decide +kernel
theorem dX12_init_199 : decode cX12_init 199 = .ok (.bipush 11, 2) := by decide +kernel
theorem dX12_init_201 : decode cX12_init 201 = .ok (.newarray .int, 2) := by decide +kernel
theorem dX12_init_203 : decode cX12_init 203 = .ok (.putfield 87, 3) := by decide +kernel
theorem dX12_init_206 : decode cX12_init 206 = .ok (.aload_n 0, 1) := by decide +kernel
theorem dX12_init_207 : decode cX12_init 207 = .ok (.bipush 10, 2) := by decide +kernel
theorem dX12_init_209 : decode cX12_init 209 = .ok (.newarray .int, 2) := by decide +kernel
theorem dX12_init_211 : decode cX12_init 211 = .ok (.putfield 90, 3) := by decide +kernel
theorem dX12_init_214 : decode cX12_init 214 = .ok (.aload_n 0, 1) := by decide +kernel
theorem dX12_init_215 : decode cX12_init 215 = .ok (.sipush 600, 3) := by decide +kernel
theorem dX12_init_218 : decode cX12_init 218 = .ok (.newarray .int, 2) := by decide +kernel
theorem dX12_init_220 : decode cX12_init 220 = .ok (.putfield 93, 3) := by decide +kernel
theorem dX12_init_223 : decode cX12_init 223 = .ok (.aload_n 0, 1) := by decide +kernel
theorem dX12_init_224 : decode cX12_init 224 = .ok (.sipush 600, 3) := by decide +kernel
theorem dX12_init_227 : decode cX12_init 227 = .ok (.newarray .int, 2) := by decide +kernel
theorem dX12_init_229 : decode cX12_init 229 = .ok (.putfield 96, 3) := by decide +kernel
theorem dX12_init_232 : decode cX12_init 232 = .ok (.aload_n 0, 1) := by decide +kernel
theorem dX12_init_233 : decode cX12_init 233 = .ok (.bipush 22, 2) := by decide +kernel
theorem dX12_init_235 : decode cX12_init 235 = .ok (.newarray .int, 2) := by decide +kernel
theorem dX12_init_237 : decode cX12_init 237 = .ok (.putfield 99, 3) := by decide +kernel
theorem dX12_init_240 : decode cX12_init 240 = .ok (.aload_n 0, 1) := by decide +kernel
theorem dX12_init_241 : decode cX12_init 241 = .ok (.sipush 600, 3) := by decide +kernel
theorem dX12_init_244 : decode cX12_init 244 = .ok (.newarray .int, 2) := by decide +kernel
theorem dX12_init_246 : decode cX12_init 246 = .ok (.putfield 102, 3) := by decide +kernel
theorem dX12_init_249 : decode cX12_init 249 = .ok (.aload_n 0, 1) := by decide +kernel
theorem dX12_init_250 : decode cX12_init 250 = .ok (.iconst (-1), 1) := by decide +kernel
theorem dX12_init_251 : decode cX12_init 251 = .ok (.putfield 105, 3) := by decide +kernel
theorem dX12_init_254 : decode cX12_init 254 = .ok (.aload_n 0, 1) := by decide +kernel
theorem dX12_init_255 : decode cX12_init 255 = .ok (.sipush 400, 3) := by decide +kernel
theorem dX12_init_258 : decode cX12_init 258 = .ok (.newarray .int, 2) := by decide +kernel
theorem dX12_init_260 : decode cX12_init 260 = .ok (.putfield 108, 3) := by decide +kernel
theorem dX12_init_263 : decode cX12_init 263 = .ok (.aload_n 0, 1) := by decide +kernel
theorem dX12_init_264 : decode cX12_init 264 = .ok (.sipush 300, 3) := by decide +kernel
theorem dX12_init_267 : decode cX12_init 267 = .ok (.newarray .int, 2) := by decide +kernel
theorem dX12_init_269 : decode cX12_init 269 = .ok (.putfield 111, 3) := by decide +kernel
theorem dX12_init_272 : decode cX12_init 272 = .ok (.aload_n 0, 1) := by decide +kernel
theorem dX12_init_273 : decode cX12_init 273 = .ok (.bipush 6, 2) := by decide +kernel
theorem dX12_init_275 : decode cX12_init 275 = .ok (.newarray .int, 2) := by decide +kernel
theorem dX12_init_277 : decode cX12_init 277 = .ok (.putfield 114, 3) := by decide +kernel
theorem dX12_init_280 : decode cX12_init 280 = .ok (.aload_n 0, 1) := by decide +kernel
theorem dX12_init_281 : decode cX12_init 281 = .ok (.bipush 40, 2) := by decide +kernel
theorem dX12_init_283 : decode cX12_init 283 = .ok (.newarray .int, 2) := by decide +kernel
theorem dX12_init_285 : decode cX12_init 285 = .ok (.putfield 117, 3) := by decide +kernel
theorem dX12_init_288 : decode cX12_init 288 = .ok (.aload_n 0, 1) := by decide +kernel
theorem dX12_init_289 : decode cX12_init 289 = .ok (.bipush 40, 2) := by decide +kernel
theorem dX12_init_291 : decode cX12_init 291 = .ok (.newarray .int, 2) := by decide +kernel
theorem dX12_init_293 : decode cX12_init 293 = .ok (.putfield 120, 3) := by decide +kernel
theorem dX12_init_296 : decode cX12_init 296 = .ok (.aload_n 0, 1) := by decide +kernel
theorem dX12_init_297 : decode cX12_init 297 = .ok (.bipush 40, 2) := by decide +kernel
theorem dX12_init_299 : decode cX12_init 299 = .ok (.newarray .int, 2) := by decide +kernel
theorem dX12_init_301 : decode cX12_init 301 = .ok (.putfield 123, 3) := by decide +kernel
theorem dX12_init_304 : decode cX12_init 304 = .ok (.aload_n 0, 1) := by decide +kernel
theorem dX12_init_305 : decode cX12_init 305 = .ok (.bipush 40, 2) := by decide +kernel
theorem dX12_init_307 : decode cX12_init 307 = .ok (.newarray .int, 2) := by decide +kernel
theorem dX12_init_309 : decode cX12_init 309 = .ok (.putfield 126, 3) := by decide +kernel
theorem dX12_init_312 : decode cX12_init 312 = .ok (.aload_n 0, 1) := by decide +kernel
theorem dX12_init_313 : decode cX12_init 313 = .ok (.bipush 40, 2) := by decide +kernel
theorem dX12_init_315 : decode cX12_init 315 = .ok (.newarray .int, 2) := by decide +kernel
theorem dX12_init_317 : decode cX12_init 317 = .ok (.putfield 129, 3) := by decide +kernel
theorem dX12_init_320 : decode cX12_init 320 = .ok (.return_, 1) := by decide +kernel
theorem dX12_isHorse_0 : decode cX12_isHorse 0 = .ok (.iload_n 1, 1) := by decide +kernel
theorem dX12_isHorse_1 : decode cX12_isHorse 1 = .ok (.ifCond .lt 15, 3) := by decide +kernel
theorem dX12_isHorse_4 : decode cX12_isHorse 4 = .ok (.iload_n 1, 1) := by decide +kernel
theorem dX12_isHorse_5 : decode cX12_isHorse 5 = .ok (.aload_n 0, 1) := by decide +kernel
theorem dX12_isHorse_6 : decode cX12_isHorse 6 = .ok (.getfield 132, 3) := by decide +kernel
theorem dX12_isHorse_9 : decode cX12_isHorse 9 = .ok (.if_icmp .ge 7, 3) := by decide +kernel
theorem dX12_isHorse_12 : decode cX12_isHorse 12 = .ok (.iconst 1, 1) := by decide +kernel
theorem dX12_isHorse_13 : decode cX12_isHorse 13 = .ok (.goto 4, 3) := by decide +kernel
theorem dX12_isHorse_16 : decode cX12_isHorse 16 = .ok (.iconst 0, 1) := by decide +kernel
theorem dX12_isHorse_17 : decode cX12_isHorse 17 = .ok (.ireturn, 1) := by decide +kernel
theorem dX12_horse_0 : decode cX12_horse 0 = .ok (.aload_n 0, 1) := by decide +kernel
theorem dX12_horse_1 : decode cX12_horse 1 = .ok (.getfield 132, 3) := by decide +kernel
theorem dX12_horse_4 : decode cX12_horse 4 = .ok (.bipush 16, 2) := by decide +kernel
theorem dX12_horse_6 : decode cX12_horse 6 = .ok (.if_icmp .eq 50, 3) := by decide +kernel
theorem dX12_horse_9 : decode cX12_horse 9 = .ok (.iload_n 1, 1) := by decide +kernel
theorem dX12_horse_10 : decode cX12_horse 10 = .ok (.ifCond .lt 46, 3) := by decide +kernel
theorem dX12_horse_13 : decode cX12_horse 13 = .ok (.iload_n 1, 1) := by decide +kernel
theorem dX12_horse_14 : decode cX12_horse 14 = .ok (.bipush 7, 2) := by decide +kernel
theorem dX12_horse_16 : decode cX12_horse 16 = .ok (.if_icmp .gt 40, 3) := by decide +kernel
theorem dX12_horse_19 : decode cX12_horse 19 = .ok (.iload_n 2, 1) := by decide +kernel
theorem dX12_horse_20 : decode cX12_horse 20 = .ok (.bipush 100, 2) := by decide +kernel
theorem dX12_horse_22 : decode cX12_horse 22 = .ok (.if_icmp .lt 34, 3) := by decide +kernel
theorem dX12_horse_25 : decode cX12_horse 25 = .ok (.iload_n 2, 1) := by decide +kernel
theorem dX12_horse_26 : decode cX12_horse 26 = .ok (.sipush 200, 3) := by decide +kernel
theorem dX12_horse_29 : decode cX12_horse 29 = .ok (.if_icmp .gt 27, 3) := by decide +kernel
theorem dX12_horse_32 : decode cX12_horse 32 = .ok (.iload_n 3, 1) := by decide +kernel
theorem dX12_horse_33 : decode cX12_horse 33 = .ok (.iconst 1, 1) := by decide +kernel
theorem dX12_horse_34 : decode cX12_horse 34 = .ok (.if_icmp .lt 22, 3) := by decide +kernel
theorem dX12_horse_37 : decode cX12_horse 37 = .ok (.iload_n 3, 1) := by decide +kernel
theorem dX12_horse_38 : decode cX12_horse 38 = .ok (.bipush 20, 2) := by decide +kernel
theorem dX12_horse_40 : decode cX12_horse 40 = .ok (.if_icmp .gt 16, 3) := by decide +kernel
theorem dX12_horse_43 : decode cX12_horse 43 = .ok (.iload 4, 2) := by decide +kernel
theorem dX12_horse_45 : decode cX12_horse 45 = .ok (.ifCond .lt 11, 3) := by decide +kernel
theorem dX12_horse_48 : decode cX12_horse 48 = .ok (.iload 4, 2) := by decide +kernel
theorem dX12_horse_50 : decode cX12_horse 50 = .ok (.sipush 1000, 3) := by decide +kernel
theorem dX12_horse_53 : decode cX12_horse 53 = .ok (.if_icmp .le 5, 3) := by decide +kernel
theorem dX12_horse_56 : decode cX12_horse 56 = .ok (.iconst (-1), 1) := by decide +kernel
theorem dX12_horse_57 : decode cX12_horse 57 = .ok (.ireturn, 1) := by decide +kernel
theorem dX12_horse_58 : decode cX12_horse 58 = .ok (.aload_n 0, 1) := by decide +kernel
theorem dX12_horse_59 : decode cX12_horse 59 = .ok (.getfield 19, 3) := by decide +kernel
theorem dX12_horse_62 : decode cX12_horse 62 = .ok (.aload_n 0, 1) := by decide +kernel
theorem dX12_horse_63 : decode cX12_horse 63 = .ok (.getfield 132, 3) := by decide +kernel
theorem dX12_horse_66 : decode cX12_horse 66 = .ok (.iload_n 1, 1) := by decide +kernel
theorem dX12_horse_67 : decode cX12_horse 67 = .ok (.iastore, 1) := by decide +kernel
theorem dX12_horse_68 : decode cX12_horse 68 = .ok (.aload_n 0, 1) := by decide +kernel
theorem dX12_horse_69 : decode cX12_horse 69 = .ok (.getfield 23, 3) := by decide +kernel
theorem dX12_horse_72 : decode cX12_horse 72 = .ok (.aload_n 0, 1) := by decide +kernel
theorem dX12_horse_73 : decode cX12_horse 73 = .ok (.getfield 132, 3) := by decide +kernel
theorem dX12_horse_76 : decode cX12_horse 76 = .ok (.iload_n 2, 1) := by decide +kernel
theorem dX12_horse_77 : decode cX12_horse 77 = .ok (.iastore, 1) := by decide +kernel
theorem dX12_horse_78 : decode cX12_horse 78 = .ok (.aload_n 0, 1) := by decide +kernel
theorem dX12_horse_79 : decode cX12_horse 79 = .ok (.getfield 26, 3) := by decide +kernel
theorem dX12_horse_82 : decode cX12_horse 82 = .ok (.aload_n 0, 1) := by decide +kernel
theorem dX12_horse_83 : decode cX12_horse 83 = .ok (.getfield 132, 3) := by decide +kernel
theorem dX12_horse_86 : decode cX12_horse 86 = .ok (.iload_n 3, 1) := by decide +kernel
theorem dX12_horse_87 : decode cX12_horse 87 = .ok (.iastore, 1) := by decide +kernel
theorem dX12_horse_88 : decode cX12_horse 88 = .ok (.aload_n 0, 1) := by decide +kernel
theorem dX12_horse_89 : decode cX12_horse 89 = .ok (.getfield 29, 3) := by decide +kernel
theorem dX12_horse_92 : decode cX12_horse 92 = .ok (.aload_n 0, 1) := by decide +kernel
theorem dX12_horse_93 : decode cX12_horse 93 = .ok (.getfield 132, 3) := by decide +kernel
theorem dX12_horse_96 : decode cX12_horse 96 = .ok (.iload 4, 2) := by decide +kernel
theorem dX12_horse_98 : decode cX12_horse 98 = .ok (.iastore, 1) := by decide +kernel
theorem dX12_horse_99 : decode cX12_horse 99 = .ok (.aload_n 0, 1) := by decide +kernel
theorem dX12_horse_100 : decode cX12_horse 100 = .ok (.dup, 1) := by decide +kernel
theorem dX12_horse_101 : decode cX12_horse 101 = .ok (.getfield 132, 3) := by decide +kernel
theorem dX12_horse_104 : decode cX12_horse 104 = .ok (.iconst 1, 1) := by decide +kernel
theorem dX12_horse_105 : decode cX12_horse 105 = .ok (.iadd, 1) := by decide +kernel
theorem dX12_horse_106 : decode cX12_horse 106 = .ok (.putfield 132, 3) := by decide +kernel
theorem dX12_horse_109 : decode cX12_horse 109 = .ok (.aload_n 0, 1) := by decide +kernel
theorem dX12_horse_110 : decode cX12_horse 110 = .ok (.getfield 132, 3) := by decide +kernel
theorem dX12_horse_113 : decode cX12_horse 113 = .ok (.iconst 1, 1) := by decide +kernel
theorem dX12_horse_114 : decode cX12_horse 114 = .ok (.isub, 1) := by decide +kernel
theorem dX12_horse_115 : decode cX12_horse 115 = .ok (.ireturn, 1) := by decide +kernel
theorem dX12_lame_0 : decode cX12_lame 0 = .ok (.aload_n 0, 1) := by decide +kernel
theorem dX12_lame_1 : decode cX12_lame 1 = .ok (.iload_n 1, 1) := by decide +kernel
theorem dX12_lame_2 : decode cX12_lame 2 = .ok (.invokevirtual 135, 3) := by decide +kernel
theorem dX12_lame_5 : decode cX12_lame 5 = .ok (.ifCond .ne 5, 3) := by decide +kernel
theorem dX12_lame_8 : decode cX12_lame 8 = .ok (.iconst 0, 1) := by decide +kernel
theorem dX12_lame_9 : decode cX12_lame 9 = .ok (.ireturn, 1) := by decide +kernel
theorem dX12_lame_10 : decode cX12_lame 10 = .ok (.aload_n 0, 1) := by decide +kernel
theorem dX12_lame_11 : decode cX12_lame 11 = .ok (.getfield 32, 3) := by decide +kernel
theorem dX12_lame_14 : decode cX12_lame 14 = .ok (.iload_n 1, 1) := by decide +kernel
theorem dX12_lame_15 : decode cX12_lame 15 = .ok (.iload_n 2, 1) := by decide +kernel
theorem dX12_lame_16 : decode cX12_lame 16 = .ok (.bastore, 1) := by decide +kernel
theorem dX12_lame_17 : decode cX12_lame 17 = .ok (.iconst 1, 1) := by decide +kernel
theorem dX12_lame_18 : decode cX12_lame 18 = .ok (.ireturn, 1) := by decide +kernel
theorem dX12_spans_0 : decode cX12_spans 0 = .ok (.iload_n 1, 1) := by decide +kernel
theorem dX12_spans_1 : decode cX12_spans 1 = .ok (.ifCond .lt 19, 3) := by decide +kernel
theorem dX12_spans_4 : decode cX12_spans 4 = .ok (.iload_n 1, 1) := by decide +kernel
theorem dX12_spans_5 : decode cX12_spans 5 = .ok (.bipush 50, 2) := by decide +kernel
theorem dX12_spans_7 : decode cX12_spans 7 = .ok (.if_icmp .gt 13, 3) := by decide +kernel
theorem dX12_spans_10 : decode cX12_spans 10 = .ok (.iload_n 2, 1) := by decide +kernel
theorem dX12_spans_11 : decode cX12_spans 11 = .ok (.ifCond .lt 9, 3) := by decide +kernel
theorem dX12_spans_14 : decode cX12_spans 14 = .ok (.iload_n 2, 1) := by decide +kernel
theorem dX12_spans_15 : decode cX12_spans 15 = .ok (.bipush 10, 2) := by decide +kernel
theorem dX12_spans_17 : decode cX12_spans 17 = .ok (.if_icmp .le 5, 3) := by decide +kernel
theorem dX12_spans_20 : decode cX12_spans 20 = .ok (.iconst 0, 1) := by decide +kernel
theorem dX12_spans_21 : decode cX12_spans 21 = .ok (.ireturn, 1) := by decide +kernel
theorem dX12_spans_22 : decode cX12_spans 22 = .ok (.aload_n 0, 1) := by decide +kernel
theorem dX12_spans_23 : decode cX12_spans 23 = .ok (.iload_n 1, 1) := by decide +kernel
theorem dX12_spans_24 : decode cX12_spans 24 = .ok (.putfield 7, 3) := by decide +kernel
theorem dX12_spans_27 : decode cX12_spans 27 = .ok (.aload_n 0, 1) := by decide +kernel
theorem dX12_spans_28 : decode cX12_spans 28 = .ok (.iload_n 2, 1) := by decide +kernel
theorem dX12_spans_29 : decode cX12_spans 29 = .ok (.putfield 13, 3) := by decide +kernel
theorem dX12_spans_32 : decode cX12_spans 32 = .ok (.iconst 1, 1) := by decide +kernel
theorem dX12_spans_33 : decode cX12_spans 33 = .ok (.ireturn, 1) := by decide +kernel
theorem dX12_isPlace_0 : decode cX12_isPlace 0 = .ok (.iload_n 0, 1) := by decide +kernel
theorem dX12_isPlace_1 : decode cX12_isPlace 1 = .ok (.ifCond .lt 13, 3) := by decide +kernel
theorem dX12_isPlace_4 : decode cX12_isPlace 4 = .ok (.iload_n 0, 1) := by decide +kernel
theorem dX12_isPlace_5 : decode cX12_isPlace 5 = .ok (.bipush 8, 2) := by decide +kernel
theorem dX12_isPlace_7 : decode cX12_isPlace 7 = .ok (.if_icmp .ge 7, 3) := by decide +kernel
theorem dX12_isPlace_10 : decode cX12_isPlace 10 = .ok (.iconst 1, 1) := by decide +kernel
theorem dX12_isPlace_11 : decode cX12_isPlace 11 = .ok (.goto 4, 3) := by decide +kernel
theorem dX12_isPlace_14 : decode cX12_isPlace 14 = .ok (.iconst 0, 1) := by decide +kernel
theorem dX12_isPlace_15 : decode cX12_isPlace 15 = .ok (.ireturn, 1) := by decide +kernel
theorem dX12_way_0 : decode cX12_way 0 = .ok (.iload_n 1, 1) := by decide +kernel
theorem dX12_way_1 : decode cX12_way 1 = .ok (.invokestatic 139, 3) := by decide +kernel
theorem dX12_way_4 : decode cX12_way 4 = .ok (.ifCond .eq 26, 3) := by decide +kernel
theorem dX12_way_7 : decode cX12_way 7 = .ok (.iload_n 2, 1) := by decide +kernel
theorem dX12_way_8 : decode cX12_way 8 = .ok (.invokestatic 139, 3) := by decide +kernel
theorem dX12_way_11 : decode cX12_way 11 = .ok (.ifCond .eq 19, 3) := by decide +kernel
theorem dX12_way_14 : decode cX12_way 14 = .ok (.iload_n 1, 1) := by decide +kernel
theorem dX12_way_15 : decode cX12_way 15 = .ok (.iload_n 2, 1) := by decide +kernel
theorem dX12_way_16 : decode cX12_way 16 = .ok (.if_icmp .eq 14, 3) := by decide +kernel
theorem dX12_way_19 : decode cX12_way 19 = .ok (.iload_n 3, 1) := by decide +kernel
theorem dX12_way_20 : decode cX12_way 20 = .ok (.ifCond .lt 10, 3) := by decide +kernel
theorem dX12_way_23 : decode cX12_way 23 = .ok (.iload_n 3, 1) := by decide +kernel
theorem dX12_way_24 : decode cX12_way 24 = .ok (.sipush 300, 3) := by decide +kernel
theorem dX12_way_27 : decode cX12_way 27 = .ok (.if_icmp .le 5, 3) := by decide +kernel
theorem dX12_way_30 : decode cX12_way 30 = .ok (.iconst 0, 1) := by decide +kernel
theorem dX12_way_31 : decode cX12_way 31 = .ok (.ireturn, 1) := by decide +kernel
theorem dX12_way_32 : decode cX12_way 32 = .ok (.aload_n 0, 1) := by decide +kernel
theorem dX12_way_33 : decode cX12_way 33 = .ok (.getfield 36, 3) := by decide +kernel
theorem dX12_way_36 : decode cX12_way 36 = .ok (.bipush 8, 2) := by decide +kernel
theorem dX12_way_38 : decode cX12_way 38 = .ok (.iload_n 1, 1) := by decide +kernel
theorem dX12_way_39 : decode cX12_way 39 = .ok (.imul, 1) := by decide +kernel
theorem dX12_way_40 : decode cX12_way 40 = .ok (.iload_n 2, 1) := by decide +kernel
theorem dX12_way_41 : decode cX12_way 41 = .ok (.iadd, 1) := by decide +kernel
theorem dX12_way_42 : decode cX12_way 42 = .ok (.iload_n 3, 1) := by decide +kernel
theorem dX12_way_43 : decode cX12_way 43 = .ok (.iastore, 1) := by decide +kernel
theorem dX12_way_44 : decode cX12_way 44 = .ok (.aload_n 0, 1) := by decide +kernel
theorem dX12_way_45 : decode cX12_way 45 = .ok (.getfield 36, 3) := by decide +kernel
theorem dX12_way_48 : decode cX12_way 48 = .ok (.bipush 8, 2) := by decide +kernel
theorem dX12_way_50 : decode cX12_way 50 = .ok (.iload_n 2, 1) := by decide +kernel
theorem dX12_way_51 : decode cX12_way 51 = .ok (.imul, 1) := by decide +kernel
theorem dX12_way_52 : decode cX12_way 52 = .ok (.iload_n 1, 1) := by decide +kernel
theorem dX12_way_53 : decode cX12_way 53 = .ok (.iadd, 1) := by decide +kernel
theorem dX12_way_54 : decode cX12_way 54 = .ok (.iload_n 3, 1) := by decide +kernel
theorem dX12_way_55 : decode cX12_way 55 = .ok (.iastore, 1) := by decide +kernel
theorem dX12_way_56 : decode cX12_way 56 = .ok (.iconst 1, 1) := by decide +kernel
theorem dX12_way_57 : decode cX12_way 57 = .ok (.ireturn, 1) := by decide +kernel
theorem dX12_wayOf_0 : decode cX12_wayOf 0 = .ok (.aload_n 0, 1) := by decide +kernel
theorem dX12_wayOf_1 : decode cX12_wayOf 1 = .ok (.getfield 36, 3) := by decide +kernel
theorem dX12_wayOf_4 : decode cX12_wayOf 4 = .ok (.bipush 8, 2) := by decide +kernel
theorem dX12_wayOf_6 : decode cX12_wayOf 6 = .ok (.iload_n 1, 1) := by decide +kernel
theorem dX12_wayOf_7 : decode cX12_wayOf 7 = .ok (.imul, 1) := by decide +kernel
theorem dX12_wayOf_8 : decode cX12_wayOf 8 = .ok (.iload_n 2, 1) := by decide +kernel
theorem dX12_wayOf_9 : decode cX12_wayOf 9 = .ok (.iadd, 1) := by decide +kernel
theorem dX12_wayOf_10 : decode cX12_wayOf 10 = .ok (.iaload, 1) := by decide +kernel
theorem dX12_wayOf_11 : decode cX12_wayOf 11 = .ok (.ireturn, 1) := by decide +kernel
theorem dX12_carriages_0 : decode cX12_carriages 0 = .ok (.iload_n 1, 1) := by decide +kernel
theorem dX12_carriages_1 : decode cX12_carriages 1 = .ok (.iconst 1, 1) := by decide +kernel
theorem dX12_carriages_2 : decode cX12_carriages 2 = .ok (.if_icmp .lt 9, 3) := by decide +kernel
theorem dX12_carriages_5 : decode cX12_carriages 5 = .ok (.iload_n 1, 1) := by decide +kernel
theorem dX12_carriages_6 : decode cX12_carriages 6 = .ok (.bipush 6, 2) := by decide +kernel
theorem dX12_carriages_8 : decode cX12_carriages 8 = .ok (.if_icmp .le 5, 3) := by decide +kernel
theorem dX12_carriages_11 : decode cX12_carriages 11 = .ok (.iconst 0, 1) := by decide +kernel
theorem dX12_carriages_12 : decode cX12_carriages 12 = .ok (.ireturn, 1) := by decide +kernel
theorem dX12_carriages_13 : decode cX12_carriages 13 = .ok (.aload_n 0, 1) := by decide +kernel
theorem dX12_carriages_14 : decode cX12_carriages 14 = .ok (.iload_n 1, 1) := by decide +kernel
theorem dX12_carriages_15 : decode cX12_carriages 15 = .ok (.putfield 16, 3) := by decide +kernel
theorem dX12_carriages_18 : decode cX12_carriages 18 = .ok (.iconst 1, 1) := by decide +kernel
theorem dX12_carriages_19 : decode cX12_carriages 19 = .ok (.ireturn, 1) := by decide +kernel
theorem dX12_need_0 : decode cX12_need 0 = .ok (.iload_n 1, 1) := by decide +kernel
theorem dX12_need_1 : decode cX12_need 1 = .ok (.ifCond .lt 10, 3) := by decide +kernel
theorem dX12_need_4 : decode cX12_need 4 = .ok (.iload_n 1, 1) := by decide +kernel
theorem dX12_need_5 : decode cX12_need 5 = .ok (.sipush 500, 3) := by decide +kernel
theorem dX12_need_8 : decode cX12_need 8 = .ok (.if_icmp .le 5, 3) := by decide +kernel
theorem dX12_need_11 : decode cX12_need 11 = .ok (.iconst 0, 1) := by decide +kernel
theorem dX12_need_12 : decode cX12_need 12 = .ok (.ireturn, 1) := by decide +kernel
theorem dX12_need_13 : decode cX12_need 13 = .ok (.aload_n 0, 1) := by decide +kernel
theorem dX12_need_14 : decode cX12_need 14 = .ok (.iload_n 1, 1) := by decide +kernel
theorem dX12_need_15 : decode cX12_need 15 = .ok (.putfield 142, 3) := by decide +kernel
theorem dX12_need_18 : decode cX12_need 18 = .ok (.iconst 1, 1) := by decide +kernel
theorem dX12_need_19 : decode cX12_need 19 = .ok (.ireturn, 1) := by decide +kernel
theorem dX12_many_0 : decode cX12_many 0 = .ok (.iconst 0, 1) := by decide +kernel
theorem dX12_many_1 : decode cX12_many 1 = .ok (.istore_n 1, 1) := by decide +kernel
theorem dX12_many_2 : decode cX12_many 2 = .ok (.iconst 0, 1) := by decide +kernel
theorem dX12_many_3 : decode cX12_many 3 = .ok (.istore_n 2, 1) := by decide +kernel
theorem dX12_many_4 : decode cX12_many 4 = .ok (.iload_n 2, 1) := by decide +kernel
theorem dX12_many_5 : decode cX12_many 5 = .ok (.bipush 16, 2) := by decide +kernel
theorem dX12_many_7 : decode cX12_many 7 = .ok (.if_icmp .ge 17, 3) := by decide +kernel
theorem dX12_many_10 : decode cX12_many 10 = .ok (.iload_n 1, 1) := by decide +kernel
theorem dX12_many_11 : decode cX12_many 11 = .ok (.iload_n 0, 1) := by decide +kernel
theorem dX12_many_12 : decode cX12_many 12 = .ok (.iload_n 2, 1) := by decide +kernel
theorem dX12_many_13 : decode cX12_many 13 = .ok (.ishr, 1) := by decide +kernel
theorem dX12_many_14 : decode cX12_many 14 = .ok (.iconst 1, 1) := by decide +kernel
theorem dX12_many_15 : decode cX12_many 15 = .ok (.iand, 1) := by decide +kernel
theorem dX12_many_16 : decode cX12_many 16 = .ok (.iadd, 1) := by decide +kernel
theorem dX12_many_17 : decode cX12_many 17 = .ok (.istore_n 1, 1) := by decide +kernel
theorem dX12_many_18 : decode cX12_many 18 = .ok (.iinc 2 1, 3) := by decide +kernel
theorem dX12_many_21 : decode cX12_many 21 = .ok (.goto (-17), 3) := by decide +kernel
theorem dX12_many_24 : decode cX12_many 24 = .ok (.iload_n 1, 1) := by decide +kernel
theorem dX12_many_25 : decode cX12_many 25 = .ok (.ireturn, 1) := by decide +kernel
theorem dX12_far_0 : decode cX12_far 0 = .ok (.iload_n 0, 1) := by decide +kernel
theorem dX12_far_1 : decode cX12_far 1 = .ok (.iload_n 1, 1) := by decide +kernel
theorem dX12_far_2 : decode cX12_far 2 = .ok (.if_icmp .ge 9, 3) := by decide +kernel
theorem dX12_far_5 : decode cX12_far 5 = .ok (.iload_n 1, 1) := by decide +kernel
theorem dX12_far_6 : decode cX12_far 6 = .ok (.iload_n 0, 1) := by decide +kernel
theorem dX12_far_7 : decode cX12_far 7 = .ok (.isub, 1) := by decide +kernel
theorem dX12_far_8 : decode cX12_far 8 = .ok (.goto 6, 3) := by decide +kernel
theorem dX12_far_11 : decode cX12_far 11 = .ok (.iload_n 0, 1) := by decide +kernel
theorem dX12_far_12 : decode cX12_far 12 = .ok (.iload_n 1, 1) := by decide +kernel
theorem dX12_far_13 : decode cX12_far 13 = .ok (.isub, 1) := by decide +kernel
theorem dX12_far_14 : decode cX12_far 14 = .ok (.ireturn, 1) := by decide +kernel
theorem dX12_doMatch_0 : decode cX12_doMatch 0 = .ok (.iconst 1, 1) := by decide +kernel
theorem dX12_doMatch_1 : decode cX12_doMatch 1 = .ok (.istore_n 2, 1) := by decide +kernel
theorem dX12_doMatch_2 : decode cX12_doMatch 2 = .ok (.iconst 0, 1) := by decide +kernel
theorem dX12_doMatch_3 : decode cX12_doMatch 3 = .ok (.istore_n 3, 1) := by decide +kernel
theorem dX12_doMatch_4 : decode cX12_doMatch 4 = .ok (.iload_n 3, 1) := by decide +kernel
theorem dX12_doMatch_5 : decode cX12_doMatch 5 = .ok (.aload_n 0, 1) := by decide +kernel
theorem dX12_doMatch_6 : decode cX12_doMatch 6 = .ok (.getfield 132, 3) := by decide +kernel
theorem dX12_doMatch_9 : decode cX12_doMatch 9 = .ok (.if_icmp .ge 124, 3) := by decide +kernel
theorem dX12_doMatch_12 : decode cX12_doMatch 12 = .ok (.iload_n 2, 1) := by decide +kernel
theorem dX12_doMatch_13 : decode cX12_doMatch 13 = .ok (.ifCond .eq 120, 3) := by decide +kernel
theorem dX12_doMatch_16 : decode cX12_doMatch 16 = .ok (.iload_n 3, 1) := by decide +kernel
theorem dX12_doMatch_17 : decode cX12_doMatch 17 = .ok (.iconst 1, 1) := by decide +kernel
theorem dX12_doMatch_18 : decode cX12_doMatch 18 = .ok (.iadd, 1) := by decide +kernel
theorem dX12_doMatch_19 : decode cX12_doMatch 19 = .ok (.istore 4, 2) := by decide +kernel
theorem dX12_doMatch_21 : decode cX12_doMatch 21 = .ok (.iload 4, 2) := by decide +kernel
theorem dX12_doMatch_23 : decode cX12_doMatch 23 = .ok (.aload_n 0, 1) := by decide +kernel
theorem dX12_doMatch_24 : decode cX12_doMatch 24 = .ok (.getfield 132, 3) := by decide +kernel
theorem dX12_doMatch_27 : decode cX12_doMatch 27 = .ok (.if_icmp .ge 100, 3) := by decide +kernel
theorem dX12_doMatch_30 : decode cX12_doMatch 30 = .ok (.iload_n 2, 1) := by decide +kernel
theorem dX12_doMatch_31 : decode cX12_doMatch 31 = .ok (.ifCond .eq 96, 3) := by decide +kernel
theorem dX12_doMatch_34 : decode cX12_doMatch 34 = .ok (.iload_n 1, 1) := by decide +kernel
theorem dX12_doMatch_35 : decode cX12_doMatch 35 = .ok (.iload_n 3, 1) := by decide +kernel
theorem dX12_doMatch_36 : decode cX12_doMatch 36 = .ok (.ishr, 1) := by decide +kernel
theorem dX12_doMatch_37 : decode cX12_doMatch 37 = .ok (.iconst 1, 1) := by decide +kernel
theorem dX12_doMatch_38 : decode cX12_doMatch 38 = .ok (.iand, 1) := by decide +kernel
theorem dX12_doMatch_39 : decode cX12_doMatch 39 = .ok (.iconst 1, 1) := by decide +kernel
theorem dX12_doMatch_40 : decode cX12_doMatch 40 = .ok (.if_icmp .ne 81, 3) := by decide +kernel
theorem dX12_doMatch_43 : decode cX12_doMatch 43 = .ok (.iload_n 1, 1) := by decide +kernel
theorem dX12_doMatch_44 : decode cX12_doMatch 44 = .ok (.iload 4, 2) := by decide +kernel
theorem dX12_doMatch_46 : decode cX12_doMatch 46 = .ok (.ishr, 1) := by decide +kernel
theorem dX12_doMatch_47 : decode cX12_doMatch 47 = .ok (.iconst 1, 1) := by decide +kernel
theorem dX12_doMatch_48 : decode cX12_doMatch 48 = .ok (.iand, 1) := by decide +kernel
theorem dX12_doMatch_49 : decode cX12_doMatch 49 = .ok (.iconst 1, 1) := by decide +kernel
theorem dX12_doMatch_50 : decode cX12_doMatch 50 = .ok (.if_icmp .ne 71, 3) := by decide +kernel
theorem dX12_doMatch_53 : decode cX12_doMatch 53 = .ok (.aload_n 0, 1) := by decide +kernel
theorem dX12_doMatch_54 : decode cX12_doMatch 54 = .ok (.getfield 19, 3) := by decide +kernel
theorem dX12_doMatch_57 : decode cX12_doMatch 57 = .ok (.iload_n 3, 1) := by decide +kernel
theorem dX12_doMatch_58 : decode cX12_doMatch 58 = .ok (.iaload, 1) := by decide +kernel
theorem dX12_doMatch_59 : decode cX12_doMatch 59 = .ok (.aload_n 0, 1) := by decide +kernel
theorem dX12_doMatch_60 : decode cX12_doMatch 60 = .ok (.getfield 19, 3) := by decide +kernel
theorem dX12_doMatch_63 : decode cX12_doMatch 63 = .ok (.iload 4, 2) := by decide +kernel
theorem dX12_doMatch_65 : decode cX12_doMatch 65 = .ok (.iaload, 1) := by decide +kernel
theorem dX12_doMatch_66 : decode cX12_doMatch 66 = .ok (.if_icmp .ne 53, 3) := by decide +kernel
theorem dX12_doMatch_69 : decode cX12_doMatch 69 = .ok (.aload_n 0, 1) := by decide +kernel
theorem dX12_doMatch_70 : decode cX12_doMatch 70 = .ok (.getfield 23, 3) := by decide +kernel
theorem dX12_doMatch_73 : decode cX12_doMatch 73 = .ok (.iload_n 3, 1) := by decide +kernel
theorem dX12_doMatch_74 : decode cX12_doMatch 74 = .ok (.iaload, 1) := by decide +kernel
theorem dX12_doMatch_75 : decode cX12_doMatch 75 = .ok (.aload_n 0, 1) := by decide +kernel
theorem dX12_doMatch_76 : decode cX12_doMatch 76 = .ok (.getfield 23, 3) := by decide +kernel
theorem dX12_doMatch_79 : decode cX12_doMatch 79 = .ok (.iload 4, 2) := by decide +kernel
theorem dX12_doMatch_81 : decode cX12_doMatch 81 = .ok (.iaload, 1) := by decide +kernel
theorem dX12_doMatch_82 : decode cX12_doMatch 82 = .ok (.invokestatic 145, 3) := by decide +kernel
theorem dX12_doMatch_85 : decode cX12_doMatch 85 = .ok (.aload_n 0, 1) := by decide +kernel
theorem dX12_doMatch_86 : decode cX12_doMatch 86 = .ok (.getfield 7, 3) := by decide +kernel
theorem dX12_doMatch_89 : decode cX12_doMatch 89 = .ok (.if_icmp .gt 30, 3) := by decide +kernel
theorem dX12_doMatch_92 : decode cX12_doMatch 92 = .ok (.aload_n 0, 1) := by decide +kernel
theorem dX12_doMatch_93 : decode cX12_doMatch 93 = .ok (.getfield 26, 3) := by decide +kernel
theorem dX12_doMatch_96 : decode cX12_doMatch 96 = .ok (.iload_n 3, 1) := by decide +kernel
theorem dX12_doMatch_97 : decode cX12_doMatch 97 = .ok (.iaload, 1) := by decide +kernel
theorem dX12_doMatch_98 : decode cX12_doMatch 98 = .ok (.aload_n 0, 1) := by decide +kernel
theorem dX12_doMatch_99 : decode cX12_doMatch 99 = .ok (.getfield 26, 3) := by decide +kernel
theorem dX12_doMatch_102 : decode cX12_doMatch 102 = .ok (.iload 4, 2) := by decide +kernel
theorem dX12_doMatch_104 : decode cX12_doMatch 104 = .ok (.iaload, 1) := by decide +kernel
theorem dX12_doMatch_105 : decode cX12_doMatch 105 = .ok (.invokestatic 145, 3) := by decide +kernel
theorem dX12_doMatch_108 : decode cX12_doMatch 108 = .ok (.aload_n 0, 1) := by decide +kernel
theorem dX12_doMatch_109 : decode cX12_doMatch 109 = .ok (.getfield 13, 3) := by decide +kernel
theorem dX12_doMatch_112 : decode cX12_doMatch 112 = .ok (.if_icmp .gt 7, 3) := by decide +kernel
theorem dX12_doMatch_115 : decode cX12_doMatch 115 = .ok (.iconst 1, 1) := by decide +kernel
theorem dX12_doMatch_116 : decode cX12_doMatch 116 = .ok (.goto 4, 3) := by decide +kernel
theorem dX12_doMatch_119 : decode cX12_doMatch 119 = .ok (.iconst 0, 1) := by decide +kernel
theorem dX12_doMatch_120 : decode cX12_doMatch 120 = .ok (.istore_n 2, 1) := by decide +kernel
theorem dX12_doMatch_121 : decode cX12_doMatch 121 = .ok (.iinc 4 1, 3) := by decide +kernel
theorem dX12_doMatch_124 : decode cX12_doMatch 124 = .ok (.goto (-103), 3) := by decide +kernel
theorem dX12_doMatch_127 : decode cX12_doMatch 127 = .ok (.iinc 3 1, 3) := by decide +kernel
theorem dX12_doMatch_130 : decode cX12_doMatch 130 = .ok (.goto (-126), 3) := by decide +kernel
theorem dX12_doMatch_133 : decode cX12_doMatch 133 = .ok (.iload_n 2, 1) := by decide +kernel
theorem dX12_doMatch_134 : decode cX12_doMatch 134 = .ok (.ireturn, 1) := by decide +kernel
theorem dX12_isSet_0 : decode cX12_isSet 0 = .ok (.iload_n 1, 1) := by decide +kernel
theorem dX12_isSet_1 : decode cX12_isSet 1 = .ok (.ifCond .lt 17, 3) := by decide +kernel
theorem dX12_isSet_4 : decode cX12_isSet 4 = .ok (.iload_n 1, 1) := by decide +kernel
theorem dX12_isSet_5 : decode cX12_isSet 5 = .ok (.iconst 1, 1) := by decide +kernel
theorem dX12_isSet_6 : decode cX12_isSet 6 = .ok (.aload_n 0, 1) := by decide +kernel
theorem dX12_isSet_7 : decode cX12_isSet 7 = .ok (.getfield 132, 3) := by decide +kernel
theorem dX12_isSet_10 : decode cX12_isSet 10 = .ok (.ishl, 1) := by decide +kernel
theorem dX12_isSet_11 : decode cX12_isSet 11 = .ok (.if_icmp .ge 7, 3) := by decide +kernel
theorem dX12_isSet_14 : decode cX12_isSet 14 = .ok (.iconst 1, 1) := by decide +kernel
theorem dX12_isSet_15 : decode cX12_isSet 15 = .ok (.goto 4, 3) := by decide +kernel
theorem dX12_isSet_18 : decode cX12_isSet 18 = .ok (.iconst 0, 1) := by decide +kernel
theorem dX12_isSet_19 : decode cX12_isSet 19 = .ok (.ireturn, 1) := by decide +kernel
theorem dX12_match_0 : decode cX12_match 0 = .ok (.aload_n 0, 1) := by decide +kernel
theorem dX12_match_1 : decode cX12_match 1 = .ok (.iload_n 1, 1) := by decide +kernel
theorem dX12_match_2 : decode cX12_match 2 = .ok (.invokevirtual 149, 3) := by decide +kernel
theorem dX12_match_5 : decode cX12_match 5 = .ok (.ifCond .eq 23, 3) := by decide +kernel
theorem dX12_match_8 : decode cX12_match 8 = .ok (.iload_n 1, 1) := by decide +kernel
theorem dX12_match_9 : decode cX12_match 9 = .ok (.invokestatic 152, 3) := by decide +kernel
theorem dX12_match_12 : decode cX12_match 12 = .ok (.iconst 1, 1) := by decide +kernel
theorem dX12_match_13 : decode cX12_match 13 = .ok (.if_icmp .le 15, 3) := by decide +kernel
theorem dX12_match_16 : decode cX12_match 16 = .ok (.aload_n 0, 1) := by decide +kernel
theorem dX12_match_17 : decode cX12_match 17 = .ok (.iload_n 1, 1) := by decide +kernel
theorem dX12_match_18 : decode cX12_match 18 = .ok (.invokevirtual 156, 3) := by decide +kernel
theorem dX12_match_21 : decode cX12_match 21 = .ok (.ifCond .eq 7, 3) := by decide +kernel
theorem dX12_match_24 : decode cX12_match 24 = .ok (.iconst 1, 1) := by decide +kernel
theorem dX12_match_25 : decode cX12_match 25 = .ok (.goto 4, 3) := by decide +kernel
theorem dX12_match_28 : decode cX12_match 28 = .ok (.iconst 0, 1) := by decide +kernel
theorem dX12_match_29 : decode cX12_match 29 = .ok (.ireturn, 1) := by decide +kernel
theorem dX12_matches_0 : decode cX12_matches 0 = .ok (.iload_n 1, 1) := by decide +kernel
theorem dX12_matches_1 : decode cX12_matches 1 = .ok (.iconst 2, 1) := by decide +kernel
theorem dX12_matches_2 : decode cX12_matches 2 = .ok (.if_icmp .eq 10, 3) := by decide +kernel
theorem dX12_matches_5 : decode cX12_matches 5 = .ok (.iload_n 1, 1) := by decide +kernel
theorem dX12_matches_6 : decode cX12_matches 6 = .ok (.iconst 4, 1) := by decide +kernel
theorem dX12_matches_7 : decode cX12_matches 7 = .ok (.if_icmp .eq 5, 3) := by decide +kernel
theorem dX12_matches_10 : decode cX12_matches 10 = .ok (.iconst (-1), 1) := by decide +kernel
theorem dX12_matches_11 : decode cX12_matches 11 = .ok (.ireturn, 1) := by decide +kernel
theorem dX12_matches_12 : decode cX12_matches 12 = .ok (.iconst 0, 1) := by decide +kernel
theorem dX12_matches_13 : decode cX12_matches 13 = .ok (.istore_n 2, 1) := by decide +kernel
theorem dX12_matches_14 : decode cX12_matches 14 = .ok (.iconst 0, 1) := by decide +kernel
theorem dX12_matches_15 : decode cX12_matches 15 = .ok (.istore_n 3, 1) := by decide +kernel
theorem dX12_matches_16 : decode cX12_matches 16 = .ok (.iload_n 3, 1) := by decide +kernel
theorem dX12_matches_17 : decode cX12_matches 17 = .ok (.iconst 1, 1) := by decide +kernel
theorem dX12_matches_18 : decode cX12_matches 18 = .ok (.aload_n 0, 1) := by decide +kernel
theorem dX12_matches_19 : decode cX12_matches 19 = .ok (.getfield 132, 3) := by decide +kernel
theorem dX12_matches_22 : decode cX12_matches 22 = .ok (.ishl, 1) := by decide +kernel
theorem dX12_matches_23 : decode cX12_matches 23 = .ok (.if_icmp .ge 33, 3) := by decide +kernel
theorem dX12_matches_26 : decode cX12_matches 26 = .ok (.iload_n 2, 1) := by decide +kernel
theorem dX12_matches_27 : decode cX12_matches 27 = .ok (.iload_n 3, 1) := by decide +kernel
theorem dX12_matches_28 : decode cX12_matches 28 = .ok (.invokestatic 152, 3) := by decide +kernel
theorem dX12_matches_31 : decode cX12_matches 31 = .ok (.iload_n 1, 1) := by decide +kernel
theorem dX12_matches_32 : decode cX12_matches 32 = .ok (.if_icmp .ne 15, 3) := by decide +kernel
theorem dX12_matches_35 : decode cX12_matches 35 = .ok (.aload_n 0, 1) := by decide +kernel
theorem dX12_matches_36 : decode cX12_matches 36 = .ok (.iload_n 3, 1) := by decide +kernel
theorem dX12_matches_37 : decode cX12_matches 37 = .ok (.invokevirtual 156, 3) := by decide +kernel
theorem dX12_matches_40 : decode cX12_matches 40 = .ok (.ifCond .eq 7, 3) := by decide +kernel
theorem dX12_matches_43 : decode cX12_matches 43 = .ok (.iconst 1, 1) := by decide +kernel
theorem dX12_matches_44 : decode cX12_matches 44 = .ok (.goto 4, 3) := by decide +kernel
theorem dX12_matches_47 : decode cX12_matches 47 = .ok (.iconst 0, 1) := by decide +kernel
theorem dX12_matches_48 : decode cX12_matches 48 = .ok (.iadd, 1) := by decide +kernel
theorem dX12_matches_49 : decode cX12_matches 49 = .ok (.istore_n 2, 1) := by decide +kernel
theorem dX12_matches_50 : decode cX12_matches 50 = .ok (.iinc 3 1, 3) := by decide +kernel
theorem dX12_matches_53 : decode cX12_matches 53 = .ok (.goto (-37), 3) := by decide +kernel
theorem dX12_matches_56 : decode cX12_matches 56 = .ok (.iload_n 2, 1) := by decide +kernel
theorem dX12_matches_57 : decode cX12_matches 57 = .ok (.ireturn, 1) := by decide +kernel
theorem dX12_job_0 : decode cX12_job 0 = .ok (.aload_n 0, 1) := by decide +kernel
theorem dX12_job_1 : decode cX12_job 1 = .ok (.getfield 159, 3) := by decide +kernel
theorem dX12_job_4 : decode cX12_job 4 = .ok (.bipush 10, 2) := by decide +kernel
theorem dX12_job_6 : decode cX12_job 6 = .ok (.if_icmp .eq 70, 3) := by decide +kernel
theorem dX12_job_9 : decode cX12_job 9 = .ok (.iload_n 1, 1) := by decide +kernel
theorem dX12_job_10 : decode cX12_job 10 = .ok (.ifCond .lt 66, 3) := by decide +kernel
theorem dX12_job_13 : decode cX12_job 13 = .ok (.iload_n 1, 1) := by decide +kernel
theorem dX12_job_14 : decode cX12_job 14 = .ok (.iconst 2, 1) := by decide +kernel
theorem dX12_job_15 : decode cX12_job 15 = .ok (.if_icmp .gt 61, 3) := by decide +kernel
theorem dX12_job_18 : decode cX12_job 18 = .ok (.iload_n 2, 1) := by decide +kernel
theorem dX12_job_19 : decode cX12_job 19 = .ok (.invokestatic 139, 3) := by decide +kernel
theorem dX12_job_22 : decode cX12_job 22 = .ok (.ifCond .eq 54, 3) := by decide +kernel
theorem dX12_job_25 : decode cX12_job 25 = .ok (.iload_n 3, 1) := by decide +kernel
theorem dX12_job_26 : decode cX12_job 26 = .ok (.invokestatic 139, 3) := by decide +kernel
theorem dX12_job_29 : decode cX12_job 29 = .ok (.ifCond .eq 47, 3) := by decide +kernel
theorem dX12_job_32 : decode cX12_job 32 = .ok (.iload 4, 2) := by decide +kernel
theorem dX12_job_34 : decode cX12_job 34 = .ok (.ifCond .lt 42, 3) := by decide +kernel
theorem dX12_job_37 : decode cX12_job 37 = .ok (.iload 4, 2) := by decide +kernel
theorem dX12_job_39 : decode cX12_job 39 = .ok (.sipush 1400, 3) := by decide +kernel
theorem dX12_job_42 : decode cX12_job 42 = .ok (.if_icmp .gt 34, 3) := by decide +kernel
theorem dX12_job_45 : decode cX12_job 45 = .ok (.iload 5, 2) := by decide +kernel
theorem dX12_job_47 : decode cX12_job 47 = .ok (.ifCond .lt 29, 3) := by decide +kernel
theorem dX12_job_50 : decode cX12_job 50 = .ok (.iload 5, 2) := by decide +kernel
theorem dX12_job_52 : decode cX12_job 52 = .ok (.sipush 300, 3) := by decide +kernel
theorem dX12_job_55 : decode cX12_job 55 = .ok (.if_icmp .gt 21, 3) := by decide +kernel
theorem dX12_job_58 : decode cX12_job 58 = .ok (.iload 6, 2) := by decide +kernel
theorem dX12_job_60 : decode cX12_job 60 = .ok (.iconst 1, 1) := by decide +kernel
theorem dX12_job_61 : decode cX12_job 61 = .ok (.if_icmp .eq 17, 3) := by decide +kernel
theorem dX12_job_64 : decode cX12_job 64 = .ok (.iload 6, 2) := by decide +kernel
theorem dX12_job_66 : decode cX12_job 66 = .ok (.iconst 2, 1) := by decide +kernel
theorem dX12_job_67 : decode cX12_job 67 = .ok (.if_icmp .eq 11, 3) := by decide +kernel
theorem dX12_job_70 : decode cX12_job 70 = .ok (.iload 6, 2) := by decide +kernel
theorem dX12_job_72 : decode cX12_job 72 = .ok (.iconst 4, 1) := by decide +kernel
theorem dX12_job_73 : decode cX12_job 73 = .ok (.if_icmp .eq 5, 3) := by decide +kernel
theorem dX12_job_76 : decode cX12_job 76 = .ok (.iconst (-1), 1) := by decide +kernel
theorem dX12_job_77 : decode cX12_job 77 = .ok (.ireturn, 1) := by decide +kernel
theorem dX12_job_78 : decode cX12_job 78 = .ok (.aload_n 0, 1) := by decide +kernel
theorem dX12_job_79 : decode cX12_job 79 = .ok (.getfield 159, 3) := by decide +kernel
theorem dX12_job_82 : decode cX12_job 82 = .ok (.istore 7, 2) := by decide +kernel
theorem dX12_job_84 : decode cX12_job 84 = .ok (.aload_n 0, 1) := by decide +kernel
theorem dX12_job_85 : decode cX12_job 85 = .ok (.getfield 39, 3) := by decide +kernel
theorem dX12_job_88 : decode cX12_job 88 = .ok (.iload 7, 2) := by decide +kernel
theorem dX12_job_90 : decode cX12_job 90 = .ok (.iload_n 1, 1) := by decide +kernel
theorem dX12_job_91 : decode cX12_job 91 = .ok (.iastore, 1) := by decide +kernel
theorem dX12_job_92 : decode cX12_job 92 = .ok (.aload_n 0, 1) := by decide +kernel
theorem dX12_job_93 : decode cX12_job 93 = .ok (.getfield 42, 3) := by decide +kernel
theorem dX12_job_96 : decode cX12_job 96 = .ok (.iload 7, 2) := by decide +kernel
theorem dX12_job_98 : decode cX12_job 98 = .ok (.iload_n 2, 1) := by decide +kernel
theorem dX12_job_99 : decode cX12_job 99 = .ok (.iastore, 1) := by decide +kernel
theorem dX12_job_100 : decode cX12_job 100 = .ok (.aload_n 0, 1) := by decide +kernel
theorem dX12_job_101 : decode cX12_job 101 = .ok (.getfield 45, 3) := by decide +kernel
theorem dX12_job_104 : decode cX12_job 104 = .ok (.iload 7, 2) := by decide +kernel
theorem dX12_job_106 : decode cX12_job 106 = .ok (.iload_n 3, 1) := by decide +kernel
theorem dX12_job_107 : decode cX12_job 107 = .ok (.iastore, 1) := by decide +kernel
theorem dX12_job_108 : decode cX12_job 108 = .ok (.aload_n 0, 1) := by decide +kernel
theorem dX12_job_109 : decode cX12_job 109 = .ok (.getfield 48, 3) := by decide +kernel
theorem dX12_job_112 : decode cX12_job 112 = .ok (.iload 7, 2) := by decide +kernel
theorem dX12_job_114 : decode cX12_job 114 = .ok (.iload 4, 2) := by decide +kernel
theorem dX12_job_116 : decode cX12_job 116 = .ok (.iastore, 1) := by decide +kernel
theorem dX12_job_117 : decode cX12_job 117 = .ok (.aload_n 0, 1) := by decide +kernel
theorem dX12_job_118 : decode cX12_job 118 = .ok (.getfield 51, 3) := by decide +kernel
theorem dX12_job_121 : decode cX12_job 121 = .ok (.iload 7, 2) := by decide +kernel
theorem dX12_job_123 : decode cX12_job 123 = .ok (.iload 5, 2) := by decide +kernel
theorem dX12_job_125 : decode cX12_job 125 = .ok (.iastore, 1) := by decide +kernel
theorem dX12_job_126 : decode cX12_job 126 = .ok (.aload_n 0, 1) := by decide +kernel
theorem dX12_job_127 : decode cX12_job 127 = .ok (.getfield 54, 3) := by decide +kernel
theorem dX12_job_130 : decode cX12_job 130 = .ok (.iload 7, 2) := by decide +kernel
theorem dX12_job_132 : decode cX12_job 132 = .ok (.iload 6, 2) := by decide +kernel
theorem dX12_job_134 : decode cX12_job 134 = .ok (.iastore, 1) := by decide +kernel
theorem dX12_job_135 : decode cX12_job 135 = .ok (.aload_n 0, 1) := by decide +kernel
theorem dX12_job_136 : decode cX12_job 136 = .ok (.bipush 10, 2) := by decide +kernel
theorem dX12_job_138 : decode cX12_job 138 = .ok (.iload 7, 2) := by decide +kernel
theorem dX12_job_140 : decode cX12_job 140 = .ok (.invokevirtual 162, 3) := by decide +kernel
theorem dX12_job_143 : decode cX12_job 143 = .ok (.aload_n 0, 1) := by decide +kernel
theorem dX12_job_144 : decode cX12_job 144 = .ok (.dup, 1) := by decide +kernel
theorem dX12_job_145 : decode cX12_job 145 = .ok (.getfield 159, 3) := by decide +kernel
theorem dX12_job_148 : decode cX12_job 148 = .ok (.iconst 1, 1) := by decide +kernel
theorem dX12_job_149 : decode cX12_job 149 = .ok (.iadd, 1) := by decide +kernel
theorem dX12_job_150 : decode cX12_job 150 = .ok (.putfield 159, 3) := by decide +kernel
theorem dX12_job_153 : decode cX12_job 153 = .ok (.iload 7, 2) := by decide +kernel
theorem dX12_job_155 : decode cX12_job 155 = .ok (.ireturn, 1) := by decide +kernel
theorem dX12_copy_0 : decode cX12_copy 0 = .ok (.aload_n 0, 1) := by decide +kernel
theorem dX12_copy_1 : decode cX12_copy 1 = .ok (.getfield 72, 3) := by decide +kernel
theorem dX12_copy_4 : decode cX12_copy 4 = .ok (.iload_n 2, 1) := by decide +kernel
theorem dX12_copy_5 : decode cX12_copy 5 = .ok (.aload_n 0, 1) := by decide +kernel
theorem dX12_copy_6 : decode cX12_copy 6 = .ok (.getfield 72, 3) := by decide +kernel
theorem dX12_copy_9 : decode cX12_copy 9 = .ok (.iload_n 1, 1) := by decide +kernel
theorem dX12_copy_10 : decode cX12_copy 10 = .ok (.iaload, 1) := by decide +kernel
theorem dX12_copy_11 : decode cX12_copy 11 = .ok (.iastore, 1) := by decide +kernel
theorem dX12_copy_12 : decode cX12_copy 12 = .ok (.iconst 0, 1) := by decide +kernel
theorem dX12_copy_13 : decode cX12_copy 13 = .ok (.istore_n 3, 1) := by decide +kernel
theorem dX12_copy_14 : decode cX12_copy 14 = .ok (.iload_n 3, 1) := by decide +kernel
theorem dX12_copy_15 : decode cX12_copy 15 = .ok (.bipush 22, 2) := by decide +kernel
theorem dX12_copy_17 : decode cX12_copy 17 = .ok (.if_icmp .ge 31, 3) := by decide +kernel
theorem dX12_copy_20 : decode cX12_copy 20 = .ok (.aload_n 0, 1) := by decide +kernel
theorem dX12_copy_21 : decode cX12_copy 21 = .ok (.getfield 69, 3) := by decide +kernel
theorem dX12_copy_24 : decode cX12_copy 24 = .ok (.bipush 22, 2) := by decide +kernel
theorem dX12_copy_26 : decode cX12_copy 26 = .ok (.iload_n 2, 1) := by decide +kernel
theorem dX12_copy_27 : decode cX12_copy 27 = .ok (.imul, 1) := by decide +kernel
theorem dX12_copy_28 : decode cX12_copy 28 = .ok (.iload_n 3, 1) := by decide +kernel
theorem dX12_copy_29 : decode cX12_copy 29 = .ok (.iadd, 1) := by decide +kernel
theorem dX12_copy_30 : decode cX12_copy 30 = .ok (.aload_n 0, 1) := by decide +kernel
theorem dX12_copy_31 : decode cX12_copy 31 = .ok (.getfield 69, 3) := by decide +kernel
theorem dX12_copy_34 : decode cX12_copy 34 = .ok (.bipush 22, 2) := by decide +kernel
theorem dX12_copy_36 : decode cX12_copy 36 = .ok (.iload_n 1, 1) := by decide +kernel
theorem dX12_copy_37 : decode cX12_copy 37 = .ok (.imul, 1) := by decide +kernel
theorem dX12_copy_38 : decode cX12_copy 38 = .ok (.iload_n 3, 1) := by decide +kernel
theorem dX12_copy_39 : decode cX12_copy 39 = .ok (.iadd, 1) := by decide +kernel
theorem dX12_copy_40 : decode cX12_copy 40 = .ok (.iaload, 1) := by decide +kernel
theorem dX12_copy_41 : decode cX12_copy 41 = .ok (.iastore, 1) := by decide +kernel
theorem dX12_copy_42 : decode cX12_copy 42 = .ok (.iinc 3 1, 3) := by decide +kernel
theorem dX12_copy_45 : decode cX12_copy 45 = .ok (.goto (-31), 3) := by decide +kernel
theorem dX12_copy_48 : decode cX12_copy 48 = .ok (.iconst 0, 1) := by decide +kernel
theorem dX12_copy_49 : decode cX12_copy 49 = .ok (.istore_n 3, 1) := by decide +kernel
theorem dX12_copy_50 : decode cX12_copy 50 = .ok (.iload_n 3, 1) := by decide +kernel
theorem dX12_copy_51 : decode cX12_copy 51 = .ok (.sipush 600, 3) := by decide +kernel
theorem dX12_copy_54 : decode cX12_copy 54 = .ok (.if_icmp .ge 57, 3) := by decide +kernel
theorem dX12_copy_57 : decode cX12_copy 57 = .ok (.aload_n 0, 1) := by decide +kernel
theorem dX12_copy_58 : decode cX12_copy 58 = .ok (.getfield 63, 3) := by decide +kernel
theorem dX12_copy_61 : decode cX12_copy 61 = .ok (.sipush 600, 3) := by decide +kernel
theorem dX12_copy_64 : decode cX12_copy 64 = .ok (.iload_n 2, 1) := by decide +kernel
theorem dX12_copy_65 : decode cX12_copy 65 = .ok (.imul, 1) := by decide +kernel
theorem dX12_copy_66 : decode cX12_copy 66 = .ok (.iload_n 3, 1) := by decide +kernel
theorem dX12_copy_67 : decode cX12_copy 67 = .ok (.iadd, 1) := by decide +kernel
theorem dX12_copy_68 : decode cX12_copy 68 = .ok (.aload_n 0, 1) := by decide +kernel
theorem dX12_copy_69 : decode cX12_copy 69 = .ok (.getfield 63, 3) := by decide +kernel
theorem dX12_copy_72 : decode cX12_copy 72 = .ok (.sipush 600, 3) := by decide +kernel
theorem dX12_copy_75 : decode cX12_copy 75 = .ok (.iload_n 1, 1) := by decide +kernel
theorem dX12_copy_76 : decode cX12_copy 76 = .ok (.imul, 1) := by decide +kernel
theorem dX12_copy_77 : decode cX12_copy 77 = .ok (.iload_n 3, 1) := by decide +kernel
theorem dX12_copy_78 : decode cX12_copy 78 = .ok (.iadd, 1) := by decide +kernel
theorem dX12_copy_79 : decode cX12_copy 79 = .ok (.iaload, 1) := by decide +kernel
theorem dX12_copy_80 : decode cX12_copy 80 = .ok (.iastore, 1) := by decide +kernel
theorem dX12_copy_81 : decode cX12_copy 81 = .ok (.aload_n 0, 1) := by decide +kernel
theorem dX12_copy_82 : decode cX12_copy 82 = .ok (.getfield 66, 3) := by decide +kernel
theorem dX12_copy_85 : decode cX12_copy 85 = .ok (.sipush 600, 3) := by decide +kernel
theorem dX12_copy_88 : decode cX12_copy 88 = .ok (.iload_n 2, 1) := by decide +kernel
theorem dX12_copy_89 : decode cX12_copy 89 = .ok (.imul, 1) := by decide +kernel
theorem dX12_copy_90 : decode cX12_copy 90 = .ok (.iload_n 3, 1) := by decide +kernel
theorem dX12_copy_91 : decode cX12_copy 91 = .ok (.iadd, 1) := by decide +kernel
theorem dX12_copy_92 : decode cX12_copy 92 = .ok (.aload_n 0, 1) := by decide +kernel
theorem dX12_copy_93 : decode cX12_copy 93 = .ok (.getfield 66, 3) := by decide +kernel
theorem dX12_copy_96 : decode cX12_copy 96 = .ok (.sipush 600, 3) := by decide +kernel
theorem dX12_copy_99 : decode cX12_copy 99 = .ok (.iload_n 1, 1) := by decide +kernel
theorem dX12_copy_100 : decode cX12_copy 100 = .ok (.imul, 1) := by decide +kernel
theorem dX12_copy_101 : decode cX12_copy 101 = .ok (.iload_n 3, 1) := by decide +kernel
theorem dX12_copy_102 : decode cX12_copy 102 = .ok (.iadd, 1) := by decide +kernel
theorem dX12_copy_103 : decode cX12_copy 103 = .ok (.iaload, 1) := by decide +kernel
theorem dX12_copy_104 : decode cX12_copy 104 = .ok (.iastore, 1) := by decide +kernel
theorem dX12_copy_105 : decode cX12_copy 105 = .ok (.iinc 3 1, 3) := by decide +kernel
theorem dX12_copy_108 : decode cX12_copy 108 = .ok (.goto (-58), 3) := by decide +kernel
theorem dX12_copy_111 : decode cX12_copy 111 = .ok (.return_, 1) := by decide +kernel
theorem dX12_isJob_0 : decode cX12_isJob 0 = .ok (.iload_n 1, 1) := by decide +kernel
theorem dX12_isJob_1 : decode cX12_isJob 1 = .ok (.ifCond .lt 15, 3) := by decide +kernel
theorem dX12_isJob_4 : decode cX12_isJob 4 = .ok (.iload_n 1, 1) := by decide +kernel
theorem dX12_isJob_5 : decode cX12_isJob 5 = .ok (.aload_n 0, 1) := by decide +kernel
theorem dX12_isJob_6 : decode cX12_isJob 6 = .ok (.getfield 159, 3) := by decide +kernel
theorem dX12_isJob_9 : decode cX12_isJob 9 = .ok (.if_icmp .ge 7, 3) := by decide +kernel
theorem dX12_isJob_12 : decode cX12_isJob 12 = .ok (.iconst 1, 1) := by decide +kernel
theorem dX12_isJob_13 : decode cX12_isJob 13 = .ok (.goto 4, 3) := by decide +kernel
theorem dX12_isJob_16 : decode cX12_isJob 16 = .ok (.iconst 0, 1) := by decide +kernel
theorem dX12_isJob_17 : decode cX12_isJob 17 = .ok (.ireturn, 1) := by decide +kernel
theorem dX12_isOn_0 : decode cX12_isOn 0 = .ok (.aload_n 0, 1) := by decide +kernel
theorem dX12_isOn_1 : decode cX12_isOn 1 = .ok (.iload_n 1, 1) := by decide +kernel
theorem dX12_isOn_2 : decode cX12_isOn 2 = .ok (.invokevirtual 166, 3) := by decide +kernel
theorem dX12_isOn_5 : decode cX12_isOn 5 = .ok (.ifCond .eq 16, 3) := by decide +kernel
theorem dX12_isOn_8 : decode cX12_isOn 8 = .ok (.aload_n 0, 1) := by decide +kernel
theorem dX12_isOn_9 : decode cX12_isOn 9 = .ok (.getfield 60, 3) := by decide +kernel
theorem dX12_isOn_12 : decode cX12_isOn 12 = .ok (.iload_n 1, 1) := by decide +kernel
theorem dX12_isOn_13 : decode cX12_isOn 13 = .ok (.baload, 1) := by decide +kernel
theorem dX12_isOn_14 : decode cX12_isOn 14 = .ok (.ifCond .ne 7, 3) := by decide +kernel
theorem dX12_isOn_17 : decode cX12_isOn 17 = .ok (.iconst 1, 1) := by decide +kernel
theorem dX12_isOn_18 : decode cX12_isOn 18 = .ok (.goto 4, 3) := by decide +kernel
theorem dX12_isOn_21 : decode cX12_isOn 21 = .ok (.iconst 0, 1) := by decide +kernel
theorem dX12_isOn_22 : decode cX12_isOn 22 = .ok (.ireturn, 1) := by decide +kernel
theorem dX12_drop_0 : decode cX12_drop 0 = .ok (.aload_n 0, 1) := by decide +kernel
theorem dX12_drop_1 : decode cX12_drop 1 = .ok (.iload_n 1, 1) := by decide +kernel
theorem dX12_drop_2 : decode cX12_drop 2 = .ok (.invokevirtual 169, 3) := by decide +kernel
theorem dX12_drop_5 : decode cX12_drop 5 = .ok (.ifCond .ne 5, 3) := by decide +kernel
theorem dX12_drop_8 : decode cX12_drop 8 = .ok (.iconst 0, 1) := by decide +kernel
theorem dX12_drop_9 : decode cX12_drop 9 = .ok (.ireturn, 1) := by decide +kernel
theorem dX12_drop_10 : decode cX12_drop 10 = .ok (.aload_n 0, 1) := by decide +kernel
theorem dX12_drop_11 : decode cX12_drop 11 = .ok (.getfield 60, 3) := by decide +kernel
theorem dX12_drop_14 : decode cX12_drop 14 = .ok (.iload_n 1, 1) := by decide +kernel
theorem dX12_drop_15 : decode cX12_drop 15 = .ok (.iconst 1, 1) := by decide +kernel
theorem dX12_drop_16 : decode cX12_drop 16 = .ok (.bastore, 1) := by decide +kernel
theorem dX12_drop_17 : decode cX12_drop 17 = .ok (.iconst 1, 1) := by decide +kernel
theorem dX12_drop_18 : decode cX12_drop 18 = .ok (.ireturn, 1) := by decide +kernel
theorem dX12_drive_0 : decode cX12_drive 0 = .ok (.aload_n 0, 1) := by decide +kernel
theorem dX12_drive_1 : decode cX12_drive 1 = .ok (.aload_n 0, 1) := by decide +kernel
theorem dX12_drive_2 : decode cX12_drive 2 = .ok (.getfield 42, 3) := by decide +kernel
theorem dX12_drive_5 : decode cX12_drive 5 = .ok (.iload_n 1, 1) := by decide +kernel
theorem dX12_drive_6 : decode cX12_drive 6 = .ok (.iaload, 1) := by decide +kernel
theorem dX12_drive_7 : decode cX12_drive 7 = .ok (.aload_n 0, 1) := by decide +kernel
theorem dX12_drive_8 : decode cX12_drive 8 = .ok (.getfield 45, 3) := by decide +kernel
theorem dX12_drive_11 : decode cX12_drive 11 = .ok (.iload_n 1, 1) := by decide +kernel
theorem dX12_drive_12 : decode cX12_drive 12 = .ok (.iaload, 1) := by decide +kernel
theorem dX12_drive_13 : decode cX12_drive 13 = .ok (.invokevirtual 172, 3) := by decide +kernel
theorem dX12_drive_16 : decode cX12_drive 16 = .ok (.ireturn, 1) := by decide +kernel
theorem dX12_endOf_0 : decode cX12_endOf 0 = .ok (.aload_n 0, 1) := by decide +kernel
theorem dX12_endOf_1 : decode cX12_endOf 1 = .ok (.getfield 48, 3) := by decide +kernel
theorem dX12_endOf_4 : decode cX12_endOf 4 = .ok (.iload_n 1, 1) := by decide +kernel
theorem dX12_endOf_5 : decode cX12_endOf 5 = .ok (.iaload, 1) := by decide +kernel
theorem dX12_endOf_6 : decode cX12_endOf 6 = .ok (.aload_n 0, 1) := by decide +kernel
theorem dX12_endOf_7 : decode cX12_endOf 7 = .ok (.iload_n 1, 1) := by decide +kernel
theorem dX12_endOf_8 : decode cX12_endOf 8 = .ok (.invokevirtual 175, 3) := by decide +kernel
theorem dX12_endOf_11 : decode cX12_endOf 11 = .ok (.iadd, 1) := by decide +kernel
theorem dX12_endOf_12 : decode cX12_endOf 12 = .ok (.aload_n 0, 1) := by decide +kernel
theorem dX12_endOf_13 : decode cX12_endOf 13 = .ok (.getfield 51, 3) := by decide +kernel
theorem dX12_endOf_16 : decode cX12_endOf 16 = .ok (.iload_n 1, 1) := by decide +kernel
theorem dX12_endOf_17 : decode cX12_endOf 17 = .ok (.iaload, 1) := by decide +kernel
theorem dX12_endOf_18 : decode cX12_endOf 18 = .ok (.iadd, 1) := by decide +kernel
theorem dX12_endOf_19 : decode cX12_endOf 19 = .ok (.ireturn, 1) := by decide +kernel
theorem dX12_of_0 : decode cX12_of 0 = .ok (.aload_n 0, 1) := by decide +kernel
theorem dX12_of_1 : decode cX12_of 1 = .ok (.iload_n 1, 1) := by decide +kernel
theorem dX12_of_2 : decode cX12_of 2 = .ok (.invokevirtual 166, 3) := by decide +kernel
theorem dX12_of_5 : decode cX12_of 5 = .ok (.ifCond .ne 5, 3) := by decide +kernel
theorem dX12_of_8 : decode cX12_of 8 = .ok (.iconst (-1), 1) := by decide +kernel
theorem dX12_of_9 : decode cX12_of 9 = .ok (.ireturn, 1) := by decide +kernel
theorem dX12_of_10 : decode cX12_of 10 = .ok (.iload_n 2, 1) := by decide +kernel
theorem dX12_of_11 : decode cX12_of 11 = .ok (.tableswitch 64 0 3 #[29, 35, 42, 57], 29) := by decide +kernel
theorem dX12_of_40 : decode cX12_of 40 = .ok (.aload_n 0, 1) := by decide +kernel
theorem dX12_of_41 : decode cX12_of 41 = .ok (.iload_n 1, 1) := by decide +kernel
theorem dX12_of_42 : decode cX12_of 42 = .ok (.invokevirtual 178, 3) := by decide +kernel
theorem dX12_of_45 : decode cX12_of 45 = .ok (.ireturn, 1) := by decide +kernel
theorem dX12_of_46 : decode cX12_of 46 = .ok (.aload_n 0, 1) := by decide +kernel
theorem dX12_of_47 : decode cX12_of 47 = .ok (.getfield 57, 3) := by decide +kernel
theorem dX12_of_50 : decode cX12_of 50 = .ok (.iload_n 1, 1) := by decide +kernel
theorem dX12_of_51 : decode cX12_of 51 = .ok (.iaload, 1) := by decide +kernel
theorem dX12_of_52 : decode cX12_of 52 = .ok (.ireturn, 1) := by decide +kernel
theorem dX12_of_53 : decode cX12_of 53 = .ok (.aload_n 0, 1) := by decide +kernel
theorem dX12_of_54 : decode cX12_of 54 = .ok (.getfield 60, 3) := by decide +kernel
theorem dX12_of_57 : decode cX12_of 57 = .ok (.iload_n 1, 1) := by decide +kernel
theorem dX12_of_58 : decode cX12_of 58 = .ok (.baload, 1) := by decide +kernel
theorem dX12_of_59 : decode cX12_of 59 = .ok (.ifCond .eq 7, 3) := by decide +kernel
theorem dX12_of_62 : decode cX12_of 62 = .ok (.iconst 1, 1) := by decide +kernel
theorem dX12_of_63 : decode cX12_of 63 = .ok (.goto 4, 3) := by decide +kernel
theorem dX12_of_66 : decode cX12_of 66 = .ok (.iconst 0, 1) := by decide +kernel
theorem dX12_of_67 : decode cX12_of 67 = .ok (.ireturn, 1) := by decide +kernel
theorem dX12_of_68 : decode cX12_of 68 = .ok (.aload_n 0, 1) := by decide +kernel
theorem dX12_of_69 : decode cX12_of 69 = .ok (.getfield 72, 3) := by decide +kernel
theorem dX12_of_72 : decode cX12_of 72 = .ok (.iload_n 1, 1) := by decide +kernel
theorem dX12_of_73 : decode cX12_of 73 = .ok (.iaload, 1) := by decide +kernel
theorem dX12_of_74 : decode cX12_of 74 = .ok (.ireturn, 1) := by decide +kernel
theorem dX12_of_75 : decode cX12_of 75 = .ok (.iconst (-1), 1) := by decide +kernel
theorem dX12_of_76 : decode cX12_of 76 = .ok (.ireturn, 1) := by decide +kernel
theorem dX12_isBehind_0 : decode cX12_isBehind 0 = .ok (.iload_n 1, 1) := by decide +kernel
theorem dX12_isBehind_1 : decode cX12_isBehind 1 = .ok (.iload_n 2, 1) := by decide +kernel
theorem dX12_isBehind_2 : decode cX12_isBehind 2 = .ok (.if_icmp .eq 38, 3) := by decide +kernel
theorem dX12_isBehind_5 : decode cX12_isBehind 5 = .ok (.aload_n 0, 1) := by decide +kernel
theorem dX12_isBehind_6 : decode cX12_isBehind 6 = .ok (.iload_n 1, 1) := by decide +kernel
theorem dX12_isBehind_7 : decode cX12_isBehind 7 = .ok (.invokevirtual 178, 3) := by decide +kernel
theorem dX12_isBehind_10 : decode cX12_isBehind 10 = .ok (.aload_n 0, 1) := by decide +kernel
theorem dX12_isBehind_11 : decode cX12_isBehind 11 = .ok (.aload_n 0, 1) := by decide +kernel
theorem dX12_isBehind_12 : decode cX12_isBehind 12 = .ok (.getfield 45, 3) := by decide +kernel
theorem dX12_isBehind_15 : decode cX12_isBehind 15 = .ok (.iload_n 1, 1) := by decide +kernel
theorem dX12_isBehind_16 : decode cX12_isBehind 16 = .ok (.iaload, 1) := by decide +kernel
theorem dX12_isBehind_17 : decode cX12_isBehind 17 = .ok (.aload_n 0, 1) := by decide +kernel
theorem dX12_isBehind_18 : decode cX12_isBehind 18 = .ok (.getfield 42, 3) := by decide +kernel
theorem dX12_isBehind_21 : decode cX12_isBehind 21 = .ok (.iload_n 2, 1) := by decide +kernel
theorem dX12_isBehind_22 : decode cX12_isBehind 22 = .ok (.iaload, 1) := by decide +kernel
theorem dX12_isBehind_23 : decode cX12_isBehind 23 = .ok (.invokevirtual 172, 3) := by decide +kernel
theorem dX12_isBehind_26 : decode cX12_isBehind 26 = .ok (.iadd, 1) := by decide +kernel
theorem dX12_isBehind_27 : decode cX12_isBehind 27 = .ok (.aload_n 0, 1) := by decide +kernel
theorem dX12_isBehind_28 : decode cX12_isBehind 28 = .ok (.getfield 48, 3) := by decide +kernel
theorem dX12_isBehind_31 : decode cX12_isBehind 31 = .ok (.iload_n 2, 1) := by decide +kernel
theorem dX12_isBehind_32 : decode cX12_isBehind 32 = .ok (.iaload, 1) := by decide +kernel
theorem dX12_isBehind_33 : decode cX12_isBehind 33 = .ok (.if_icmp .gt 7, 3) := by decide +kernel
theorem dX12_isBehind_36 : decode cX12_isBehind 36 = .ok (.iconst 1, 1) := by decide +kernel
theorem dX12_isBehind_37 : decode cX12_isBehind 37 = .ok (.goto 4, 3) := by decide +kernel
theorem dX12_isBehind_40 : decode cX12_isBehind 40 = .ok (.iconst 0, 1) := by decide +kernel
theorem dX12_isBehind_41 : decode cX12_isBehind 41 = .ok (.ireturn, 1) := by decide +kernel
theorem dX12_behind_0 : decode cX12_behind 0 = .ok (.aload_n 0, 1) := by decide +kernel
theorem dX12_behind_1 : decode cX12_behind 1 = .ok (.iload_n 1, 1) := by decide +kernel
theorem dX12_behind_2 : decode cX12_behind 2 = .ok (.invokevirtual 169, 3) := by decide +kernel
theorem dX12_behind_5 : decode cX12_behind 5 = .ok (.ifCond .eq 24, 3) := by decide +kernel
theorem dX12_behind_8 : decode cX12_behind 8 = .ok (.aload_n 0, 1) := by decide +kernel
theorem dX12_behind_9 : decode cX12_behind 9 = .ok (.iload_n 2, 1) := by decide +kernel
theorem dX12_behind_10 : decode cX12_behind 10 = .ok (.invokevirtual 169, 3) := by decide +kernel
theorem dX12_behind_13 : decode cX12_behind 13 = .ok (.ifCond .eq 16, 3) := by decide +kernel
theorem dX12_behind_16 : decode cX12_behind 16 = .ok (.aload_n 0, 1) := by decide +kernel
theorem dX12_behind_17 : decode cX12_behind 17 = .ok (.iload_n 1, 1) := by decide +kernel
theorem dX12_behind_18 : decode cX12_behind 18 = .ok (.iload_n 2, 1) := by decide +kernel
theorem dX12_behind_19 : decode cX12_behind 19 = .ok (.invokevirtual 181, 3) := by decide +kernel
theorem dX12_behind_22 : decode cX12_behind 22 = .ok (.ifCond .eq 7, 3) := by decide +kernel
theorem dX12_behind_25 : decode cX12_behind 25 = .ok (.iconst 1, 1) := by decide +kernel
theorem dX12_behind_26 : decode cX12_behind 26 = .ok (.goto 4, 3) := by decide +kernel
theorem dX12_behind_29 : decode cX12_behind 29 = .ok (.iconst 0, 1) := by decide +kernel
theorem dX12_behind_30 : decode cX12_behind 30 = .ok (.ireturn, 1) := by decide +kernel
theorem dX12_isAhead_0 : decode cX12_isAhead 0 = .ok (.aload_n 0, 1) := by decide +kernel
theorem dX12_isAhead_1 : decode cX12_isAhead 1 = .ok (.getfield 48, 3) := by decide +kernel
theorem dX12_isAhead_4 : decode cX12_isAhead 4 = .ok (.iload_n 1, 1) := by decide +kernel
theorem dX12_isAhead_5 : decode cX12_isAhead 5 = .ok (.iaload, 1) := by decide +kernel
theorem dX12_isAhead_6 : decode cX12_isAhead 6 = .ok (.aload_n 0, 1) := by decide +kernel
theorem dX12_isAhead_7 : decode cX12_isAhead 7 = .ok (.getfield 48, 3) := by decide +kernel
theorem dX12_isAhead_10 : decode cX12_isAhead 10 = .ok (.iload_n 2, 1) := by decide +kernel
theorem dX12_isAhead_11 : decode cX12_isAhead 11 = .ok (.iaload, 1) := by decide +kernel
theorem dX12_isAhead_12 : decode cX12_isAhead 12 = .ok (.if_icmp .lt 23, 3) := by decide +kernel
theorem dX12_isAhead_15 : decode cX12_isAhead 15 = .ok (.aload_n 0, 1) := by decide +kernel
theorem dX12_isAhead_16 : decode cX12_isAhead 16 = .ok (.getfield 48, 3) := by decide +kernel
theorem dX12_isAhead_19 : decode cX12_isAhead 19 = .ok (.iload_n 1, 1) := by decide +kernel
theorem dX12_isAhead_20 : decode cX12_isAhead 20 = .ok (.iaload, 1) := by decide +kernel
theorem dX12_isAhead_21 : decode cX12_isAhead 21 = .ok (.aload_n 0, 1) := by decide +kernel
theorem dX12_isAhead_22 : decode cX12_isAhead 22 = .ok (.getfield 48, 3) := by decide +kernel
theorem dX12_isAhead_25 : decode cX12_isAhead 25 = .ok (.iload_n 2, 1) := by decide +kernel
theorem dX12_isAhead_26 : decode cX12_isAhead 26 = .ok (.iaload, 1) := by decide +kernel
theorem dX12_isAhead_27 : decode cX12_isAhead 27 = .ok (.if_icmp .ne 12, 3) := by decide +kernel
theorem dX12_isAhead_30 : decode cX12_isAhead 30 = .ok (.iload_n 1, 1) := by decide +kernel
theorem dX12_isAhead_31 : decode cX12_isAhead 31 = .ok (.iload_n 2, 1) := by decide +kernel
theorem dX12_isAhead_32 : decode cX12_isAhead 32 = .ok (.if_icmp .ge 7, 3) := by decide +kernel
theorem dX12_isAhead_35 : decode cX12_isAhead 35 = .ok (.iconst 1, 1) := by decide +kernel
theorem dX12_isAhead_36 : decode cX12_isAhead 36 = .ok (.goto 4, 3) := by decide +kernel
theorem dX12_isAhead_39 : decode cX12_isAhead 39 = .ok (.iconst 0, 1) := by decide +kernel
theorem dX12_isAhead_40 : decode cX12_isAhead 40 = .ok (.ireturn, 1) := by decide +kernel
theorem dX12_lay_0 : decode cX12_lay 0 = .ok (.aload_n 0, 1) := by decide +kernel
theorem dX12_lay_1 : decode cX12_lay 1 = .ok (.iconst 0, 1) := by decide +kernel
theorem dX12_lay_2 : decode cX12_lay 2 = .ok (.putfield 185, 3) := by decide +kernel
theorem dX12_lay_5 : decode cX12_lay 5 = .ok (.iconst 0, 1) := by decide +kernel
theorem dX12_lay_6 : decode cX12_lay 6 = .ok (.istore_n 1, 1) := by decide +kernel
theorem dX12_lay_7 : decode cX12_lay 7 = .ok (.iload_n 1, 1) := by decide +kernel
theorem dX12_lay_8 : decode cX12_lay 8 = .ok (.aload_n 0, 1) := by decide +kernel
theorem dX12_lay_9 : decode cX12_lay 9 = .ok (.getfield 159, 3) := by decide +kernel
theorem dX12_lay_12 : decode cX12_lay 12 = .ok (.if_icmp .ge 93, 3) := by decide +kernel
theorem dX12_lay_15 : decode cX12_lay 15 = .ok (.aload_n 0, 1) := by decide +kernel
theorem dX12_lay_16 : decode cX12_lay 16 = .ok (.getfield 60, 3) := by decide +kernel
theorem dX12_lay_19 : decode cX12_lay 19 = .ok (.iload_n 1, 1) := by decide +kernel
theorem dX12_lay_20 : decode cX12_lay 20 = .ok (.baload, 1) := by decide +kernel
theorem dX12_lay_21 : decode cX12_lay 21 = .ok (.ifCond .eq 6, 3) := by decide +kernel
theorem dX12_lay_24 : decode cX12_lay 24 = .ok (.goto 75, 3) := by decide +kernel
theorem dX12_lay_27 : decode cX12_lay 27 = .ok (.aload_n 0, 1) := by decide +kernel
theorem dX12_lay_28 : decode cX12_lay 28 = .ok (.getfield 75, 3) := by decide +kernel
theorem dX12_lay_31 : decode cX12_lay 31 = .ok (.aload_n 0, 1) := by decide +kernel
theorem dX12_lay_32 : decode cX12_lay 32 = .ok (.getfield 185, 3) := by decide +kernel
theorem dX12_lay_35 : decode cX12_lay 35 = .ok (.iload_n 1, 1) := by decide +kernel
theorem dX12_lay_36 : decode cX12_lay 36 = .ok (.iastore, 1) := by decide +kernel
theorem dX12_lay_37 : decode cX12_lay 37 = .ok (.aload_n 0, 1) := by decide +kernel
theorem dX12_lay_38 : decode cX12_lay 38 = .ok (.getfield 185, 3) := by decide +kernel
theorem dX12_lay_41 : decode cX12_lay 41 = .ok (.istore_n 2, 1) := by decide +kernel
theorem dX12_lay_42 : decode cX12_lay 42 = .ok (.iload_n 2, 1) := by decide +kernel
theorem dX12_lay_43 : decode cX12_lay 43 = .ok (.ifCond .le 39, 3) := by decide +kernel
theorem dX12_lay_46 : decode cX12_lay 46 = .ok (.aload_n 0, 1) := by decide +kernel
theorem dX12_lay_47 : decode cX12_lay 47 = .ok (.iload_n 1, 1) := by decide +kernel
theorem dX12_lay_48 : decode cX12_lay 48 = .ok (.aload_n 0, 1) := by decide +kernel
theorem dX12_lay_49 : decode cX12_lay 49 = .ok (.getfield 78, 3) := by decide +kernel
theorem dX12_lay_52 : decode cX12_lay 52 = .ok (.iload_n 2, 1) := by decide +kernel
theorem dX12_lay_53 : decode cX12_lay 53 = .ok (.iconst 1, 1) := by decide +kernel
theorem dX12_lay_54 : decode cX12_lay 54 = .ok (.isub, 1) := by decide +kernel
theorem dX12_lay_55 : decode cX12_lay 55 = .ok (.iaload, 1) := by decide +kernel
theorem dX12_lay_56 : decode cX12_lay 56 = .ok (.invokevirtual 188, 3) := by decide +kernel
theorem dX12_lay_59 : decode cX12_lay 59 = .ok (.ifCond .eq 23, 3) := by decide +kernel
theorem dX12_lay_62 : decode cX12_lay 62 = .ok (.aload_n 0, 1) := by decide +kernel
theorem dX12_lay_63 : decode cX12_lay 63 = .ok (.getfield 78, 3) := by decide +kernel
theorem dX12_lay_66 : decode cX12_lay 66 = .ok (.iload_n 2, 1) := by decide +kernel
theorem dX12_lay_67 : decode cX12_lay 67 = .ok (.aload_n 0, 1) := by decide +kernel
theorem dX12_lay_68 : decode cX12_lay 68 = .ok (.getfield 78, 3) := by decide +kernel
theorem dX12_lay_71 : decode cX12_lay 71 = .ok (.iload_n 2, 1) := by decide +kernel
theorem dX12_lay_72 : decode cX12_lay 72 = .ok (.iconst 1, 1) := by decide +kernel
theorem dX12_lay_73 : decode cX12_lay 73 = .ok (.isub, 1) := by decide +kernel
theorem dX12_lay_74 : decode cX12_lay 74 = .ok (.iaload, 1) := by decide +kernel
theorem dX12_lay_75 : decode cX12_lay 75 = .ok (.iastore, 1) := by decide +kernel
theorem dX12_lay_76 : decode cX12_lay 76 = .ok (.iinc 2 (-1), 3) := by decide +kernel
theorem dX12_lay_79 : decode cX12_lay 79 = .ok (.goto (-37), 3) := by decide +kernel
theorem dX12_lay_82 : decode cX12_lay 82 = .ok (.aload_n 0, 1) := by decide +kernel
theorem dX12_lay_83 : decode cX12_lay 83 = .ok (.getfield 78, 3) := by decide +kernel
theorem dX12_lay_86 : decode cX12_lay 86 = .ok (.iload_n 2, 1) := by decide +kernel
theorem dX12_lay_87 : decode cX12_lay 87 = .ok (.iload_n 1, 1) := by decide +kernel
theorem dX12_lay_88 : decode cX12_lay 88 = .ok (.iastore, 1) := by decide +kernel
theorem dX12_lay_89 : decode cX12_lay 89 = .ok (.aload_n 0, 1) := by decide +kernel
theorem dX12_lay_90 : decode cX12_lay 90 = .ok (.dup, 1) := by decide +kernel
theorem dX12_lay_91 : decode cX12_lay 91 = .ok (.getfield 185, 3) := by decide +kernel
theorem dX12_lay_94 : decode cX12_lay 94 = .ok (.iconst 1, 1) := by decide +kernel
theorem dX12_lay_95 : decode cX12_lay 95 = .ok (.iadd, 1) := by decide +kernel
theorem dX12_lay_96 : decode cX12_lay 96 = .ok (.putfield 185, 3) := by decide +kernel
theorem dX12_lay_99 : decode cX12_lay 99 = .ok (.iinc 1 1, 3) := by decide +kernel
theorem dX12_lay_102 : decode cX12_lay 102 = .ok (.goto (-95), 3) := by decide +kernel
theorem dX12_lay_105 : decode cX12_lay 105 = .ok (.aload_n 0, 1) := by decide +kernel
theorem dX12_lay_106 : decode cX12_lay 106 = .ok (.iconst (-1), 1) := by decide +kernel
theorem dX12_lay_107 : decode cX12_lay 107 = .ok (.putfield 191, 3) := by decide +kernel
theorem dX12_lay_110 : decode cX12_lay 110 = .ok (.aload_n 0, 1) := by decide +kernel
theorem dX12_lay_111 : decode cX12_lay 111 = .ok (.iconst 0, 1) := by decide +kernel
theorem dX12_lay_112 : decode cX12_lay 112 = .ok (.putfield 194, 3) := by decide +kernel
theorem dX12_lay_115 : decode cX12_lay 115 = .ok (.iconst 0, 1) := by decide +kernel
theorem dX12_lay_116 : decode cX12_lay 116 = .ok (.istore_n 1, 1) := by decide +kernel
theorem dX12_lay_117 : decode cX12_lay 117 = .ok (.iload_n 1, 1) := by decide +kernel
theorem dX12_lay_118 : decode cX12_lay 118 = .ok (.bipush 10, 2) := by decide +kernel
theorem dX12_lay_120 : decode cX12_lay 120 = .ok (.if_icmp .ge 16, 3) := by decide +kernel
theorem dX12_lay_123 : decode cX12_lay 123 = .ok (.aload_n 0, 1) := by decide +kernel
theorem dX12_lay_124 : decode cX12_lay 124 = .ok (.getfield 84, 3) := by decide +kernel
theorem dX12_lay_127 : decode cX12_lay 127 = .ok (.iload_n 1, 1) := by decide +kernel
theorem dX12_lay_128 : decode cX12_lay 128 = .ok (.iconst (-1), 1) := by decide +kernel
theorem dX12_lay_129 : decode cX12_lay 129 = .ok (.iastore, 1) := by decide +kernel
theorem dX12_lay_130 : decode cX12_lay 130 = .ok (.iinc 1 1, 3) := by decide +kernel
theorem dX12_lay_133 : decode cX12_lay 133 = .ok (.goto (-16), 3) := by decide +kernel
theorem dX12_lay_136 : decode cX12_lay 136 = .ok (.aload_n 0, 1) := by decide +kernel
theorem dX12_lay_137 : decode cX12_lay 137 = .ok (.getfield 87, 3) := by decide +kernel
theorem dX12_lay_140 : decode cX12_lay 140 = .ok (.iconst 0, 1) := by decide +kernel
theorem dX12_lay_141 : decode cX12_lay 141 = .ok (.iconst 0, 1) := by decide +kernel
theorem dX12_lay_142 : decode cX12_lay 142 = .ok (.iastore, 1) := by decide +kernel
theorem dX12_lay_143 : decode cX12_lay 143 = .ok (.iconst 0, 1) := by decide +kernel
theorem dX12_lay_144 : decode cX12_lay 144 = .ok (.istore_n 1, 1) := by decide +kernel
theorem dX12_lay_145 : decode cX12_lay 145 = .ok (.aload_n 0, 1) := by decide +kernel
theorem dX12_lay_146 : decode cX12_lay 146 = .ok (.getfield 185, 3) := by decide +kernel
theorem dX12_lay_149 : decode cX12_lay 149 = .ok (.ifCond .ne 11, 3) := by decide +kernel
theorem dX12_lay_152 : decode cX12_lay 152 = .ok (.aload_n 0, 1) := by decide +kernel
theorem dX12_lay_153 : decode cX12_lay 153 = .ok (.iconst 0, 1) := by decide +kernel
theorem dX12_lay_154 : decode cX12_lay 154 = .ok (.putfield 191, 3) := by decide +kernel
theorem dX12_lay_157 : decode cX12_lay 157 = .ok (.goto 15, 3) := by decide +kernel
theorem dX12_lay_160 : decode cX12_lay 160 = .ok (.aload_n 0, 1) := by decide +kernel
theorem dX12_lay_161 : decode cX12_lay 161 = .ok (.getfield 81, 3) := by decide +kernel
theorem dX12_lay_164 : decode cX12_lay 164 = .ok (.aload_n 0, 1) := by decide +kernel
theorem dX12_lay_165 : decode cX12_lay 165 = .ok (.getfield 75, 3) := by decide +kernel
theorem dX12_lay_168 : decode cX12_lay 168 = .ok (.iconst 0, 1) := by decide +kernel
theorem dX12_lay_169 : decode cX12_lay 169 = .ok (.iaload, 1) := by decide +kernel
theorem dX12_lay_170 : decode cX12_lay 170 = .ok (.iconst (-1), 1) := by decide +kernel
theorem dX12_lay_171 : decode cX12_lay 171 = .ok (.iastore, 1) := by decide +kernel
theorem dX12_lay_172 : decode cX12_lay 172 = .ok (.iload_n 1, 1) := by decide +kernel
theorem dX12_lay_173 : decode cX12_lay 173 = .ok (.ifCond .lt 144, 3) := by decide +kernel
theorem dX12_lay_176 : decode cX12_lay 176 = .ok (.aload_n 0, 1) := by decide +kernel
theorem dX12_lay_177 : decode cX12_lay 177 = .ok (.getfield 185, 3) := by decide +kernel
theorem dX12_lay_180 : decode cX12_lay 180 = .ok (.ifCond .le 137, 3) := by decide +kernel
theorem dX12_lay_183 : decode cX12_lay 183 = .ok (.aload_n 0, 1) := by decide +kernel
theorem dX12_lay_184 : decode cX12_lay 184 = .ok (.getfield 75, 3) := by decide +kernel
theorem dX12_lay_187 : decode cX12_lay 187 = .ok (.iload_n 1, 1) := by decide +kernel
theorem dX12_lay_188 : decode cX12_lay 188 = .ok (.iaload, 1) := by decide +kernel
theorem dX12_lay_189 : decode cX12_lay 189 = .ok (.istore_n 2, 1) := by decide +kernel
theorem dX12_lay_190 : decode cX12_lay 190 = .ok (.aload_n 0, 1) := by decide +kernel
theorem dX12_lay_191 : decode cX12_lay 191 = .ok (.getfield 81, 3) := by decide +kernel
theorem dX12_lay_194 : decode cX12_lay 194 = .ok (.iload_n 2, 1) := by decide +kernel
theorem dX12_lay_195 : decode cX12_lay 195 = .ok (.dup2, 1) := by decide +kernel
theorem dX12_lay_196 : decode cX12_lay 196 = .ok (.iaload, 1) := by decide +kernel
theorem dX12_lay_197 : decode cX12_lay 197 = .ok (.iconst 1, 1) := by decide +kernel
theorem dX12_lay_198 : decode cX12_lay 198 = .ok (.iadd, 1) := by decide +kernel
theorem dX12_lay_199 : decode cX12_lay 199 = .ok (.iastore, 1) := by decide +kernel
theorem dX12_lay_200 : decode cX12_lay 200 = .ok (.aload_n 0, 1) := by decide +kernel
theorem dX12_lay_201 : decode cX12_lay 201 = .ok (.getfield 81, 3) := by decide +kernel
theorem dX12_lay_204 : decode cX12_lay 204 = .ok (.iload_n 2, 1) := by decide +kernel
theorem dX12_lay_205 : decode cX12_lay 205 = .ok (.iaload, 1) := by decide +kernel
theorem dX12_lay_206 : decode cX12_lay 206 = .ok (.aload_n 0, 1) := by decide +kernel
theorem dX12_lay_207 : decode cX12_lay 207 = .ok (.getfield 87, 3) := by decide +kernel
theorem dX12_lay_210 : decode cX12_lay 210 = .ok (.iload_n 1, 1) := by decide +kernel
theorem dX12_lay_211 : decode cX12_lay 211 = .ok (.iaload, 1) := by decide +kernel
theorem dX12_lay_212 : decode cX12_lay 212 = .ok (.if_icmp .gt 16, 3) := by decide +kernel
theorem dX12_lay_215 : decode cX12_lay 215 = .ok (.aload_n 0, 1) := by decide +kernel
theorem dX12_lay_216 : decode cX12_lay 216 = .ok (.getfield 81, 3) := by decide +kernel
theorem dX12_lay_219 : decode cX12_lay 219 = .ok (.iload_n 2, 1) := by decide +kernel
theorem dX12_lay_220 : decode cX12_lay 220 = .ok (.iaload, 1) := by decide +kernel
theorem dX12_lay_221 : decode cX12_lay 221 = .ok (.aload_n 0, 1) := by decide +kernel
theorem dX12_lay_222 : decode cX12_lay 222 = .ok (.getfield 16, 3) := by decide +kernel
theorem dX12_lay_225 : decode cX12_lay 225 = .ok (.if_icmp .lt 9, 3) := by decide +kernel
theorem dX12_lay_228 : decode cX12_lay 228 = .ok (.iinc 1 (-1), 3) := by decide +kernel
theorem dX12_lay_231 : decode cX12_lay 231 = .ok (.goto (-59), 3) := by decide +kernel
theorem dX12_lay_234 : decode cX12_lay 234 = .ok (.aload_n 0, 1) := by decide +kernel
theorem dX12_lay_235 : decode cX12_lay 235 = .ok (.getfield 87, 3) := by decide +kernel
theorem dX12_lay_238 : decode cX12_lay 238 = .ok (.iload_n 1, 1) := by decide +kernel
theorem dX12_lay_239 : decode cX12_lay 239 = .ok (.iconst 1, 1) := by decide +kernel
theorem dX12_lay_240 : decode cX12_lay 240 = .ok (.iadd, 1) := by decide +kernel
theorem dX12_lay_241 : decode cX12_lay 241 = .ok (.aload_n 0, 1) := by decide +kernel
theorem dX12_lay_242 : decode cX12_lay 242 = .ok (.getfield 81, 3) := by decide +kernel
theorem dX12_lay_245 : decode cX12_lay 245 = .ok (.iload_n 2, 1) := by decide +kernel
theorem dX12_lay_246 : decode cX12_lay 246 = .ok (.iaload, 1) := by decide +kernel
theorem dX12_lay_247 : decode cX12_lay 247 = .ok (.aload_n 0, 1) := by decide +kernel
theorem dX12_lay_248 : decode cX12_lay 248 = .ok (.getfield 87, 3) := by decide +kernel
theorem dX12_lay_251 : decode cX12_lay 251 = .ok (.iload_n 1, 1) := by decide +kernel
theorem dX12_lay_252 : decode cX12_lay 252 = .ok (.iaload, 1) := by decide +kernel
theorem dX12_lay_253 : decode cX12_lay 253 = .ok (.if_icmp .ne 14, 3) := by decide +kernel
theorem dX12_lay_256 : decode cX12_lay 256 = .ok (.aload_n 0, 1) := by decide +kernel
theorem dX12_lay_257 : decode cX12_lay 257 = .ok (.getfield 87, 3) := by decide +kernel
theorem dX12_lay_260 : decode cX12_lay 260 = .ok (.iload_n 1, 1) := by decide +kernel
theorem dX12_lay_261 : decode cX12_lay 261 = .ok (.iaload, 1) := by decide +kernel
theorem dX12_lay_262 : decode cX12_lay 262 = .ok (.iconst 1, 1) := by decide +kernel
theorem dX12_lay_263 : decode cX12_lay 263 = .ok (.iadd, 1) := by decide +kernel
theorem dX12_lay_264 : decode cX12_lay 264 = .ok (.goto 9, 3) := by decide +kernel
theorem dX12_lay_267 : decode cX12_lay 267 = .ok (.aload_n 0, 1) := by decide +kernel
theorem dX12_lay_268 : decode cX12_lay 268 = .ok (.getfield 87, 3) := by decide +kernel
theorem dX12_lay_271 : decode cX12_lay 271 = .ok (.iload_n 1, 1) := by decide +kernel
theorem dX12_lay_272 : decode cX12_lay 272 = .ok (.iaload, 1) := by decide +kernel
theorem dX12_lay_273 : decode cX12_lay 273 = .ok (.iastore, 1) := by decide +kernel
theorem dX12_lay_274 : decode cX12_lay 274 = .ok (.iload_n 1, 1) := by decide +kernel
theorem dX12_lay_275 : decode cX12_lay 275 = .ok (.iconst 1, 1) := by decide +kernel
theorem dX12_lay_276 : decode cX12_lay 276 = .ok (.iadd, 1) := by decide +kernel
theorem dX12_lay_277 : decode cX12_lay 277 = .ok (.aload_n 0, 1) := by decide +kernel
theorem dX12_lay_278 : decode cX12_lay 278 = .ok (.getfield 185, 3) := by decide +kernel
theorem dX12_lay_281 : decode cX12_lay 281 = .ok (.if_icmp .ge 21, 3) := by decide +kernel
theorem dX12_lay_284 : decode cX12_lay 284 = .ok (.iinc 1 1, 3) := by decide +kernel
theorem dX12_lay_287 : decode cX12_lay 287 = .ok (.aload_n 0, 1) := by decide +kernel
theorem dX12_lay_288 : decode cX12_lay 288 = .ok (.getfield 81, 3) := by decide +kernel
theorem dX12_lay_291 : decode cX12_lay 291 = .ok (.aload_n 0, 1) := by decide +kernel
theorem dX12_lay_292 : decode cX12_lay 292 = .ok (.getfield 75, 3) := by decide +kernel
theorem dX12_lay_295 : decode cX12_lay 295 = .ok (.iload_n 1, 1) := by decide +kernel
theorem dX12_lay_296 : decode cX12_lay 296 = .ok (.iaload, 1) := by decide +kernel
theorem dX12_lay_297 : decode cX12_lay 297 = .ok (.iconst (-1), 1) := by decide +kernel
theorem dX12_lay_298 : decode cX12_lay 298 = .ok (.iastore, 1) := by decide +kernel
theorem dX12_lay_299 : decode cX12_lay 299 = .ok (.goto 15, 3) := by decide +kernel
theorem dX12_lay_302 : decode cX12_lay 302 = .ok (.aload_n 0, 1) := by decide +kernel
theorem dX12_lay_303 : decode cX12_lay 303 = .ok (.aload_n 0, 1) := by decide +kernel
theorem dX12_lay_304 : decode cX12_lay 304 = .ok (.getfield 87, 3) := by decide +kernel
theorem dX12_lay_307 : decode cX12_lay 307 = .ok (.iload_n 1, 1) := by decide +kernel
theorem dX12_lay_308 : decode cX12_lay 308 = .ok (.iconst 1, 1) := by decide +kernel
theorem dX12_lay_309 : decode cX12_lay 309 = .ok (.iadd, 1) := by decide +kernel
theorem dX12_lay_310 : decode cX12_lay 310 = .ok (.iaload, 1) := by decide +kernel
theorem dX12_lay_311 : decode cX12_lay 311 = .ok (.invokevirtual 197, 3) := by decide +kernel
theorem dX12_lay_314 : decode cX12_lay 314 = .ok (.goto (-142), 3) := by decide +kernel
theorem dX12_lay_317 : decode cX12_lay 317 = .ok (.return_, 1) := by decide +kernel
theorem dX12_look_0 : decode cX12_look 0 = .ok (.iconst 0, 1) := by decide +kernel
theorem dX12_look_1 : decode cX12_look 1 = .ok (.istore_n 2, 1) := by decide +kernel
theorem dX12_look_2 : decode cX12_look 2 = .ok (.iconst 0, 1) := by decide +kernel
theorem dX12_look_3 : decode cX12_look 3 = .ok (.istore_n 3, 1) := by decide +kernel
theorem dX12_look_4 : decode cX12_look 4 = .ok (.iload_n 3, 1) := by decide +kernel
theorem dX12_look_5 : decode cX12_look 5 = .ok (.iload_n 1, 1) := by decide +kernel
theorem dX12_look_6 : decode cX12_look 6 = .ok (.if_icmp .ge 16, 3) := by decide +kernel
theorem dX12_look_9 : decode cX12_look 9 = .ok (.aload_n 0, 1) := by decide +kernel
theorem dX12_look_10 : decode cX12_look 10 = .ok (.getfield 90, 3) := by decide +kernel
theorem dX12_look_13 : decode cX12_look 13 = .ok (.iload_n 3, 1) := by decide +kernel
theorem dX12_look_14 : decode cX12_look 14 = .ok (.iconst (-1), 1) := by decide +kernel
theorem dX12_look_15 : decode cX12_look 15 = .ok (.iastore, 1) := by decide +kernel
theorem dX12_look_16 : decode cX12_look 16 = .ok (.iinc 3 1, 3) := by decide +kernel
theorem dX12_look_19 : decode cX12_look 19 = .ok (.goto (-15), 3) := by decide +kernel
theorem dX12_look_22 : decode cX12_look 22 = .ok (.iconst 0, 1) := by decide +kernel
theorem dX12_look_23 : decode cX12_look 23 = .ok (.istore_n 3, 1) := by decide +kernel
theorem dX12_look_24 : decode cX12_look 24 = .ok (.iload_n 3, 1) := by decide +kernel
theorem dX12_look_25 : decode cX12_look 25 = .ok (.aload_n 0, 1) := by decide +kernel
theorem dX12_look_26 : decode cX12_look 26 = .ok (.getfield 185, 3) := by decide +kernel
theorem dX12_look_29 : decode cX12_look 29 = .ok (.if_icmp .ge 103, 3) := by decide +kernel
theorem dX12_look_32 : decode cX12_look 32 = .ok (.aload_n 0, 1) := by decide +kernel
theorem dX12_look_33 : decode cX12_look 33 = .ok (.getfield 78, 3) := by decide +kernel
theorem dX12_look_36 : decode cX12_look 36 = .ok (.iload_n 3, 1) := by decide +kernel
theorem dX12_look_37 : decode cX12_look 37 = .ok (.iaload, 1) := by decide +kernel
theorem dX12_look_38 : decode cX12_look 38 = .ok (.istore 4, 2) := by decide +kernel
theorem dX12_look_40 : decode cX12_look 40 = .ok (.aload_n 0, 1) := by decide +kernel
theorem dX12_look_41 : decode cX12_look 41 = .ok (.getfield 90, 3) := by decide +kernel
theorem dX12_look_44 : decode cX12_look 44 = .ok (.aload_n 0, 1) := by decide +kernel
theorem dX12_look_45 : decode cX12_look 45 = .ok (.getfield 81, 3) := by decide +kernel
theorem dX12_look_48 : decode cX12_look 48 = .ok (.iload 4, 2) := by decide +kernel
theorem dX12_look_50 : decode cX12_look 50 = .ok (.iaload, 1) := by decide +kernel
theorem dX12_look_51 : decode cX12_look 51 = .ok (.iaload, 1) := by decide +kernel
theorem dX12_look_52 : decode cX12_look 52 = .ok (.istore 5, 2) := by decide +kernel
theorem dX12_look_54 : decode cX12_look 54 = .ok (.iload 5, 2) := by decide +kernel
theorem dX12_look_56 : decode cX12_look 56 = .ok (.ifCond .lt 15, 3) := by decide +kernel
theorem dX12_look_59 : decode cX12_look 59 = .ok (.aload_n 0, 1) := by decide +kernel
theorem dX12_look_60 : decode cX12_look 60 = .ok (.iload 5, 2) := by decide +kernel
theorem dX12_look_62 : decode cX12_look 62 = .ok (.iload 4, 2) := by decide +kernel
theorem dX12_look_64 : decode cX12_look 64 = .ok (.invokevirtual 181, 3) := by decide +kernel
theorem dX12_look_67 : decode cX12_look 67 = .ok (.ifCond .ne 4, 3) := by decide +kernel
theorem dX12_look_70 : decode cX12_look 70 = .ok (.return_, 1) := by decide +kernel
theorem dX12_look_71 : decode cX12_look 71 = .ok (.iload_n 2, 1) := by decide +kernel
theorem dX12_look_72 : decode cX12_look 72 = .ok (.iload 5, 2) := by decide +kernel
theorem dX12_look_74 : decode cX12_look 74 = .ok (.ifCond .ge 18, 3) := by decide +kernel
theorem dX12_look_77 : decode cX12_look 77 = .ok (.aload_n 0, 1) := by decide +kernel
theorem dX12_look_78 : decode cX12_look 78 = .ok (.iconst 0, 1) := by decide +kernel
theorem dX12_look_79 : decode cX12_look 79 = .ok (.aload_n 0, 1) := by decide +kernel
theorem dX12_look_80 : decode cX12_look 80 = .ok (.getfield 42, 3) := by decide +kernel
theorem dX12_look_83 : decode cX12_look 83 = .ok (.iload 4, 2) := by decide +kernel
theorem dX12_look_85 : decode cX12_look 85 = .ok (.iaload, 1) := by decide +kernel
theorem dX12_look_86 : decode cX12_look 86 = .ok (.invokevirtual 172, 3) := by decide +kernel
theorem dX12_look_89 : decode cX12_look 89 = .ok (.goto 21, 3) := by decide +kernel
theorem dX12_look_92 : decode cX12_look 92 = .ok (.aload_n 0, 1) := by decide +kernel
theorem dX12_look_93 : decode cX12_look 93 = .ok (.aload_n 0, 1) := by decide +kernel
theorem dX12_look_94 : decode cX12_look 94 = .ok (.getfield 45, 3) := by decide +kernel
theorem dX12_look_97 : decode cX12_look 97 = .ok (.iload 5, 2) := by decide +kernel
theorem dX12_look_99 : decode cX12_look 99 = .ok (.iaload, 1) := by decide +kernel
theorem dX12_look_100 : decode cX12_look 100 = .ok (.aload_n 0, 1) := by decide +kernel
theorem dX12_look_101 : decode cX12_look 101 = .ok (.getfield 42, 3) := by decide +kernel
theorem dX12_look_104 : decode cX12_look 104 = .ok (.iload 4, 2) := by decide +kernel
theorem dX12_look_106 : decode cX12_look 106 = .ok (.iaload, 1) := by decide +kernel
theorem dX12_look_107 : decode cX12_look 107 = .ok (.invokevirtual 172, 3) := by decide +kernel
theorem dX12_look_110 : decode cX12_look 110 = .ok (.iadd, 1) := by decide +kernel
theorem dX12_look_111 : decode cX12_look 111 = .ok (.istore_n 2, 1) := by decide +kernel
theorem dX12_look_112 : decode cX12_look 112 = .ok (.aload_n 0, 1) := by decide +kernel
theorem dX12_look_113 : decode cX12_look 113 = .ok (.getfield 90, 3) := by decide +kernel
theorem dX12_look_116 : decode cX12_look 116 = .ok (.aload_n 0, 1) := by decide +kernel
theorem dX12_look_117 : decode cX12_look 117 = .ok (.getfield 81, 3) := by decide +kernel
theorem dX12_look_120 : decode cX12_look 120 = .ok (.iload 4, 2) := by decide +kernel
theorem dX12_look_122 : decode cX12_look 122 = .ok (.iaload, 1) := by decide +kernel
theorem dX12_look_123 : decode cX12_look 123 = .ok (.iload 4, 2) := by decide +kernel
theorem dX12_look_125 : decode cX12_look 125 = .ok (.iastore, 1) := by decide +kernel
theorem dX12_look_126 : decode cX12_look 126 = .ok (.iinc 3 1, 3) := by decide +kernel
theorem dX12_look_129 : decode cX12_look 129 = .ok (.goto (-105), 3) := by decide +kernel
theorem dX12_look_132 : decode cX12_look 132 = .ok (.iconst 0, 1) := by decide +kernel
theorem dX12_look_133 : decode cX12_look 133 = .ok (.istore_n 3, 1) := by decide +kernel
theorem dX12_look_134 : decode cX12_look 134 = .ok (.iload_n 3, 1) := by decide +kernel
theorem dX12_look_135 : decode cX12_look 135 = .ok (.iload_n 1, 1) := by decide +kernel
theorem dX12_look_136 : decode cX12_look 136 = .ok (.if_icmp .ge 28, 3) := by decide +kernel
theorem dX12_look_139 : decode cX12_look 139 = .ok (.iload_n 2, 1) := by decide +kernel
theorem dX12_look_140 : decode cX12_look 140 = .ok (.aload_n 0, 1) := by decide +kernel
theorem dX12_look_141 : decode cX12_look 141 = .ok (.aload_n 0, 1) := by decide +kernel
theorem dX12_look_142 : decode cX12_look 142 = .ok (.getfield 45, 3) := by decide +kernel
theorem dX12_look_145 : decode cX12_look 145 = .ok (.aload_n 0, 1) := by decide +kernel
theorem dX12_look_146 : decode cX12_look 146 = .ok (.getfield 90, 3) := by decide +kernel
theorem dX12_look_149 : decode cX12_look 149 = .ok (.iload_n 3, 1) := by decide +kernel
theorem dX12_look_150 : decode cX12_look 150 = .ok (.iaload, 1) := by decide +kernel
theorem dX12_look_151 : decode cX12_look 151 = .ok (.iaload, 1) := by decide +kernel
theorem dX12_look_152 : decode cX12_look 152 = .ok (.iconst 0, 1) := by decide +kernel
theorem dX12_look_153 : decode cX12_look 153 = .ok (.invokevirtual 172, 3) := by decide +kernel
theorem dX12_look_156 : decode cX12_look 156 = .ok (.iadd, 1) := by decide +kernel
theorem dX12_look_157 : decode cX12_look 157 = .ok (.istore_n 2, 1) := by decide +kernel
theorem dX12_look_158 : decode cX12_look 158 = .ok (.iinc 3 1, 3) := by decide +kernel
theorem dX12_look_161 : decode cX12_look 161 = .ok (.goto (-27), 3) := by decide +kernel
theorem dX12_look_164 : decode cX12_look 164 = .ok (.aload_n 0, 1) := by decide +kernel
theorem dX12_look_165 : decode cX12_look 165 = .ok (.getfield 191, 3) := by decide +kernel
theorem dX12_look_168 : decode cX12_look 168 = .ok (.ifCond .lt 12, 3) := by decide +kernel
theorem dX12_look_171 : decode cX12_look 171 = .ok (.iload_n 2, 1) := by decide +kernel
theorem dX12_look_172 : decode cX12_look 172 = .ok (.aload_n 0, 1) := by decide +kernel
theorem dX12_look_173 : decode cX12_look 173 = .ok (.getfield 191, 3) := by decide +kernel
theorem dX12_look_176 : decode cX12_look 176 = .ok (.if_icmp .lt 4, 3) := by decide +kernel
theorem dX12_look_179 : decode cX12_look 179 = .ok (.return_, 1) := by decide +kernel
theorem dX12_look_180 : decode cX12_look 180 = .ok (.aload_n 0, 1) := by decide +kernel
theorem dX12_look_181 : decode cX12_look 181 = .ok (.iload_n 2, 1) := by decide +kernel
theorem dX12_look_182 : decode cX12_look 182 = .ok (.putfield 191, 3) := by decide +kernel
theorem dX12_look_185 : decode cX12_look 185 = .ok (.aload_n 0, 1) := by decide +kernel
theorem dX12_look_186 : decode cX12_look 186 = .ok (.iload_n 1, 1) := by decide +kernel
theorem dX12_look_187 : decode cX12_look 187 = .ok (.putfield 194, 3) := by decide +kernel
theorem dX12_look_190 : decode cX12_look 190 = .ok (.iconst 0, 1) := by decide +kernel
theorem dX12_look_191 : decode cX12_look 191 = .ok (.istore_n 3, 1) := by decide +kernel
theorem dX12_look_192 : decode cX12_look 192 = .ok (.iload_n 3, 1) := by decide +kernel
theorem dX12_look_193 : decode cX12_look 193 = .ok (.aload_n 0, 1) := by decide +kernel
theorem dX12_look_194 : decode cX12_look 194 = .ok (.getfield 185, 3) := by decide +kernel
theorem dX12_look_197 : decode cX12_look 197 = .ok (.if_icmp .ge 31, 3) := by decide +kernel
theorem dX12_look_200 : decode cX12_look 200 = .ok (.aload_n 0, 1) := by decide +kernel
theorem dX12_look_201 : decode cX12_look 201 = .ok (.getfield 84, 3) := by decide +kernel
theorem dX12_look_204 : decode cX12_look 204 = .ok (.aload_n 0, 1) := by decide +kernel
theorem dX12_look_205 : decode cX12_look 205 = .ok (.getfield 75, 3) := by decide +kernel
theorem dX12_look_208 : decode cX12_look 208 = .ok (.iload_n 3, 1) := by decide +kernel
theorem dX12_look_209 : decode cX12_look 209 = .ok (.iaload, 1) := by decide +kernel
theorem dX12_look_210 : decode cX12_look 210 = .ok (.aload_n 0, 1) := by decide +kernel
theorem dX12_look_211 : decode cX12_look 211 = .ok (.getfield 81, 3) := by decide +kernel
theorem dX12_look_214 : decode cX12_look 214 = .ok (.aload_n 0, 1) := by decide +kernel
theorem dX12_look_215 : decode cX12_look 215 = .ok (.getfield 75, 3) := by decide +kernel
theorem dX12_look_218 : decode cX12_look 218 = .ok (.iload_n 3, 1) := by decide +kernel
theorem dX12_look_219 : decode cX12_look 219 = .ok (.iaload, 1) := by decide +kernel
theorem dX12_look_220 : decode cX12_look 220 = .ok (.iaload, 1) := by decide +kernel
theorem dX12_look_221 : decode cX12_look 221 = .ok (.iastore, 1) := by decide +kernel
theorem dX12_look_222 : decode cX12_look 222 = .ok (.iinc 3 1, 3) := by decide +kernel
theorem dX12_look_225 : decode cX12_look 225 = .ok (.goto (-33), 3) := by decide +kernel
theorem dX12_look_228 : decode cX12_look 228 = .ok (.return_, 1) := by decide +kernel
theorem dX12_empty_0 : decode cX12_empty 0 = .ok (.aload_n 0, 1) := by decide +kernel
theorem dX12_empty_1 : decode cX12_empty 1 = .ok (.invokevirtual 201, 3) := by decide +kernel
theorem dX12_empty_4 : decode cX12_empty 4 = .ok (.aload_n 0, 1) := by decide +kernel
theorem dX12_empty_5 : decode cX12_empty 5 = .ok (.getfield 191, 3) := by decide +kernel
theorem dX12_empty_8 : decode cX12_empty 8 = .ok (.ifCond .ge 8, 3) := by decide +kernel
theorem dX12_empty_11 : decode cX12_empty 11 = .ok (.bipush (-2), 2) := by decide +kernel
theorem dX12_empty_13 : decode cX12_empty 13 = .ok (.goto 7, 3) := by decide +kernel
theorem dX12_empty_16 : decode cX12_empty 16 = .ok (.aload_n 0, 1) := by decide +kernel
theorem dX12_empty_17 : decode cX12_empty 17 = .ok (.getfield 191, 3) := by decide +kernel
theorem dX12_empty_20 : decode cX12_empty 20 = .ok (.ireturn, 1) := by decide +kernel
theorem dX12_chains_0 : decode cX12_chains 0 = .ok (.aload_n 0, 1) := by decide +kernel
theorem dX12_chains_1 : decode cX12_chains 1 = .ok (.invokevirtual 201, 3) := by decide +kernel
theorem dX12_chains_4 : decode cX12_chains 4 = .ok (.aload_n 0, 1) := by decide +kernel
theorem dX12_chains_5 : decode cX12_chains 5 = .ok (.getfield 191, 3) := by decide +kernel
theorem dX12_chains_8 : decode cX12_chains 8 = .ok (.ifCond .ge 8, 3) := by decide +kernel
theorem dX12_chains_11 : decode cX12_chains 11 = .ok (.bipush (-2), 2) := by decide +kernel
theorem dX12_chains_13 : decode cX12_chains 13 = .ok (.goto 7, 3) := by decide +kernel
theorem dX12_chains_16 : decode cX12_chains 16 = .ok (.aload_n 0, 1) := by decide +kernel
theorem dX12_chains_17 : decode cX12_chains 17 = .ok (.getfield 194, 3) := by decide +kernel
theorem dX12_chains_20 : decode cX12_chains 20 = .ok (.ireturn, 1) := by decide +kernel
theorem dX12_chain_0 : decode cX12_chain 0 = .ok (.aload_n 0, 1) := by decide +kernel
theorem dX12_chain_1 : decode cX12_chain 1 = .ok (.iload_n 1, 1) := by decide +kernel
theorem dX12_chain_2 : decode cX12_chain 2 = .ok (.invokevirtual 169, 3) := by decide +kernel
theorem dX12_chain_5 : decode cX12_chain 5 = .ok (.ifCond .ne 5, 3) := by decide +kernel
theorem dX12_chain_8 : decode cX12_chain 8 = .ok (.iconst (-1), 1) := by decide +kernel
theorem dX12_chain_9 : decode cX12_chain 9 = .ok (.ireturn, 1) := by decide +kernel
theorem dX12_chain_10 : decode cX12_chain 10 = .ok (.aload_n 0, 1) := by decide +kernel
theorem dX12_chain_11 : decode cX12_chain 11 = .ok (.invokevirtual 201, 3) := by decide +kernel
theorem dX12_chain_14 : decode cX12_chain 14 = .ok (.aload_n 0, 1) := by decide +kernel
theorem dX12_chain_15 : decode cX12_chain 15 = .ok (.getfield 84, 3) := by decide +kernel
theorem dX12_chain_18 : decode cX12_chain 18 = .ok (.iload_n 1, 1) := by decide +kernel
theorem dX12_chain_19 : decode cX12_chain 19 = .ok (.iaload, 1) := by decide +kernel
theorem dX12_chain_20 : decode cX12_chain 20 = .ok (.ireturn, 1) := by decide +kernel
theorem dX12_team_0 : decode cX12_team 0 = .ok (.aload_n 0, 1) := by decide +kernel
theorem dX12_team_1 : decode cX12_team 1 = .ok (.iload_n 1, 1) := by decide +kernel
theorem dX12_team_2 : decode cX12_team 2 = .ok (.invokevirtual 169, 3) := by decide +kernel
theorem dX12_team_5 : decode cX12_team 5 = .ok (.ifCond .eq 28, 3) := by decide +kernel
theorem dX12_team_8 : decode cX12_team 8 = .ok (.aload_n 0, 1) := by decide +kernel
theorem dX12_team_9 : decode cX12_team 9 = .ok (.iload_n 2, 1) := by decide +kernel
theorem dX12_team_10 : decode cX12_team 10 = .ok (.invokevirtual 149, 3) := by decide +kernel
theorem dX12_team_13 : decode cX12_team 13 = .ok (.ifCond .eq 20, 3) := by decide +kernel
theorem dX12_team_16 : decode cX12_team 16 = .ok (.iload_n 2, 1) := by decide +kernel
theorem dX12_team_17 : decode cX12_team 17 = .ok (.ifCond .eq 18, 3) := by decide +kernel
theorem dX12_team_20 : decode cX12_team 20 = .ok (.iload_n 2, 1) := by decide +kernel
theorem dX12_team_21 : decode cX12_team 21 = .ok (.invokestatic 152, 3) := by decide +kernel
theorem dX12_team_24 : decode cX12_team 24 = .ok (.aload_n 0, 1) := by decide +kernel
theorem dX12_team_25 : decode cX12_team 25 = .ok (.getfield 54, 3) := by decide +kernel
theorem dX12_team_28 : decode cX12_team 28 = .ok (.iload_n 1, 1) := by decide +kernel
theorem dX12_team_29 : decode cX12_team 29 = .ok (.iaload, 1) := by decide +kernel
theorem dX12_team_30 : decode cX12_team 30 = .ok (.if_icmp .eq 5, 3) := by decide +kernel
theorem dX12_team_33 : decode cX12_team 33 = .ok (.iconst 0, 1) := by decide +kernel
theorem dX12_team_34 : decode cX12_team 34 = .ok (.ireturn, 1) := by decide +kernel
theorem dX12_team_35 : decode cX12_team 35 = .ok (.aload_n 0, 1) := by decide +kernel
theorem dX12_team_36 : decode cX12_team 36 = .ok (.getfield 57, 3) := by decide +kernel
theorem dX12_team_39 : decode cX12_team 39 = .ok (.iload_n 1, 1) := by decide +kernel
theorem dX12_team_40 : decode cX12_team 40 = .ok (.iload_n 2, 1) := by decide +kernel
theorem dX12_team_41 : decode cX12_team 41 = .ok (.iastore, 1) := by decide +kernel
theorem dX12_team_42 : decode cX12_team 42 = .ok (.iconst 1, 1) := by decide +kernel
theorem dX12_team_43 : decode cX12_team 43 = .ok (.ireturn, 1) := by decide +kernel
theorem dX12_costOf_0 : decode cX12_costOf 0 = .ok (.aload_n 0, 1) := by decide +kernel
theorem dX12_costOf_1 : decode cX12_costOf 1 = .ok (.getfield 39, 3) := by decide +kernel
theorem dX12_costOf_4 : decode cX12_costOf 4 = .ok (.iload_n 1, 1) := by decide +kernel
