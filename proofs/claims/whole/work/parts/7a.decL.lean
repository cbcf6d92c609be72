section DECL
theorem dL_makeVersion_0 : decode cL_makeVersion 0 = .ok (.aload_n 3, 1) := by decide +kernel
theorem dL_makeVersion_1 : decode cL_makeVersion 1 = .ok (.iconst 0, 1) := by decide +kernel
theorem dL_makeVersion_2 : decode cL_makeVersion 2 = .ok (.aload_n 0, 1) := by decide +kernel
theorem dL_makeVersion_3 : decode cL_makeVersion 3 = .ok (.iload_n 1, 1) := by decide +kernel
theorem dL_makeVersion_4 : decode cL_makeVersion 4 = .ok (.iload_n 2, 1) := by decide +kernel
theorem dL_makeVersion_5 : decode cL_makeVersion 5 = .ok (.invokevirtual 7, 3) := by decide +kernel
theorem dL_makeVersion_8 : decode cL_makeVersion 8 = .ok (.i2l, 1) := by decide +kernel
theorem dL_makeVersion_9 : decode cL_makeVersion 9 = .ok (.lastore, 1) := by decide +kernel
theorem dL_makeVersion_10 : decode cL_makeVersion 10 = .ok (.goto 15, 3) := by decide +kernel
theorem dL_makeVersion_13 : decode cL_makeVersion 13 = .ok (.astore 4, 2) := by decide +kernel
theorem dL_makeVersion_15 : decode cL_makeVersion 15 = .ok (.iconst 1, 1) := by decide +kernel
theorem dL_makeVersion_16 : decode cL_makeVersion 16 = .ok (.ireturn, 1) := by decide +kernel
theorem dL_makeVersion_17 : decode cL_makeVersion 17 = .ok (.astore 4, 2) := by decide +kernel
theorem dL_makeVersion_19 : decode cL_makeVersion 19 = .ok (.iconst 2, 1) := by decide +kernel
theorem dL_makeVersion_20 : decode cL_makeVersion 20 = .ok (.ireturn, 1) := by decide +kernel
theorem dL_makeVersion_21 : decode cL_makeVersion 21 = .ok (.astore 4, 2) := by decide +kernel
theorem dL_makeVersion_23 : decode cL_makeVersion 23 = .ok (.iconst 3, 1) := by decide +kernel
theorem dL_makeVersion_24 : decode cL_makeVersion 24 = .ok (.ireturn, 1) := by decide +kernel
theorem dL_makeVersion_25 : decode cL_makeVersion 25 = .ok (.iconst 0, 1) := by decide +kernel
theorem dL_makeVersion_26 : decode cL_makeVersion 26 = .ok (.ireturn, 1) := by decide +kernel
theorem dL_feed_0 : decode cL_feed 0 = .ok (.aload_n 2, 1) := by decide +kernel
theorem dL_feed_1 : decode cL_feed 1 = .ok (.iconst 0, 1) := by decide +kernel
theorem dL_feed_2 : decode cL_feed 2 = .ok (.aload_n 0, 1) := by decide +kernel
theorem dL_feed_3 : decode cL_feed 3 = .ok (.iload_n 1, 1) := by decide +kernel
theorem dL_feed_4 : decode cL_feed 4 = .ok (.invokevirtual 19, 3) := by decide +kernel
theorem dL_feed_7 : decode cL_feed 7 = .ok (.i2l, 1) := by decide +kernel
theorem dL_feed_8 : decode cL_feed 8 = .ok (.lastore, 1) := by decide +kernel
theorem dL_feed_9 : decode cL_feed 9 = .ok (.goto 6, 3) := by decide +kernel
theorem dL_feed_12 : decode cL_feed 12 = .ok (.astore_n 3, 1) := by decide +kernel
theorem dL_feed_13 : decode cL_feed 13 = .ok (.iconst 1, 1) := by decide +kernel
theorem dL_feed_14 : decode cL_feed 14 = .ok (.ireturn, 1) := by decide +kernel
theorem dL_feed_15 : decode cL_feed 15 = .ok (.iconst 0, 1) := by decide +kernel
theorem dL_feed_16 : decode cL_feed 16 = .ok (.ireturn, 1) := by decide +kernel
theorem dL_amend_0 : decode cL_amend 0 = .ok (.aload_n 2, 1) := by decide +kernel
theorem dL_amend_1 : decode cL_amend 1 = .ok (.iconst 0, 1) := by decide +kernel
theorem dL_amend_2 : decode cL_amend 2 = .ok (.aload_n 0, 1) := by decide +kernel
theorem dL_amend_3 : decode cL_amend 3 = .ok (.iload_n 1, 1) := by decide +kernel
theorem dL_amend_4 : decode cL_amend 4 = .ok (.invokevirtual 23, 3) := by decide +kernel
theorem dL_amend_7 : decode cL_amend 7 = .ok (.i2l, 1) := by decide +kernel
theorem dL_amend_8 : decode cL_amend 8 = .ok (.lastore, 1) := by decide +kernel
theorem dL_amend_9 : decode cL_amend 9 = .ok (.goto 9, 3) := by decide +kernel
theorem dL_amend_12 : decode cL_amend 12 = .ok (.astore_n 3, 1) := by decide +kernel
theorem dL_amend_13 : decode cL_amend 13 = .ok (.iconst 1, 1) := by decide +kernel
theorem dL_amend_14 : decode cL_amend 14 = .ok (.ireturn, 1) := by decide +kernel
theorem dL_amend_15 : decode cL_amend 15 = .ok (.astore_n 3, 1) := by decide +kernel
theorem dL_amend_16 : decode cL_amend 16 = .ok (.iconst 2, 1) := by decide +kernel
theorem dL_amend_17 : decode cL_amend 17 = .ok (.ireturn, 1) := by decide +kernel
theorem dL_amend_18 : decode cL_amend 18 = .ok (.iconst 0, 1) := by decide +kernel
theorem dL_amend_19 : decode cL_amend 19 = .ok (.ireturn, 1) := by decide +kernel
theorem dL_impossible_0 : decode cL_impossible 0 = .ok (.aload_n 1, 1) := by decide +kernel
theorem dL_impossible_1 : decode cL_impossible 1 = .ok (.iconst 0, 1) := by decide +kernel
theorem dL_impossible_2 : decode cL_impossible 2 = .ok (.aload_n 0, 1) := by decide +kernel
theorem dL_impossible_3 : decode cL_impossible 3 = .ok (.invokevirtual 29, 3) := by decide +kernel
theorem dL_impossible_6 : decode cL_impossible 6 = .ok (.i2l, 1) := by decide +kernel
theorem dL_impossible_7 : decode cL_impossible 7 = .ok (.lastore, 1) := by decide +kernel
theorem dL_impossible_8 : decode cL_impossible 8 = .ok (.goto 6, 3) := by decide +kernel
theorem dL_impossible_11 : decode cL_impossible 11 = .ok (.astore_n 2, 1) := by decide +kernel
theorem dL_impossible_12 : decode cL_impossible 12 = .ok (.iconst 1, 1) := by decide +kernel
theorem dL_impossible_13 : decode cL_impossible 13 = .ok (.ireturn, 1) := by decide +kernel
theorem dL_impossible_14 : decode cL_impossible 14 = .ok (.iconst 0, 1) := by decide +kernel
theorem dL_impossible_15 : decode cL_impossible 15 = .ok (.ireturn, 1) := by decide +kernel
theorem dL_versionOn_0 : decode cL_versionOn 0 = .ok (.aload_n 2, 1) := by decide +kernel
theorem dL_versionOn_1 : decode cL_versionOn 1 = .ok (.iconst 0, 1) := by decide +kernel
theorem dL_versionOn_2 : decode cL_versionOn 2 = .ok (.aload_n 0, 1) := by decide +kernel
theorem dL_versionOn_3 : decode cL_versionOn 3 = .ok (.iload_n 1, 1) := by decide +kernel
theorem dL_versionOn_4 : decode cL_versionOn 4 = .ok (.invokevirtual 35, 3) := by decide +kernel
theorem dL_versionOn_7 : decode cL_versionOn 7 = .ok (.i2l, 1) := by decide +kernel
theorem dL_versionOn_8 : decode cL_versionOn 8 = .ok (.lastore, 1) := by decide +kernel
theorem dL_versionOn_9 : decode cL_versionOn 9 = .ok (.goto 9, 3) := by decide +kernel
theorem dL_versionOn_12 : decode cL_versionOn 12 = .ok (.astore_n 3, 1) := by decide +kernel
theorem dL_versionOn_13 : decode cL_versionOn 13 = .ok (.iconst 1, 1) := by decide +kernel
theorem dL_versionOn_14 : decode cL_versionOn 14 = .ok (.ireturn, 1) := by decide +kernel
theorem dL_versionOn_15 : decode cL_versionOn 15 = .ok (.astore_n 3, 1) := by decide +kernel
theorem dL_versionOn_16 : decode cL_versionOn 16 = .ok (.iconst 2, 1) := by decide +kernel
theorem dL_versionOn_17 : decode cL_versionOn 17 = .ok (.ireturn, 1) := by decide +kernel
theorem dL_versionOn_18 : decode cL_versionOn 18 = .ok (.iconst 0, 1) := by decide +kernel
theorem dL_versionOn_19 : decode cL_versionOn 19 = .ok (.ireturn, 1) := by decide +kernel
theorem dL_version_0 : decode cL_version 0 = .ok (.aload_n 3, 1) := by decide +kernel
theorem dL_version_1 : decode cL_version 1 = .ok (.iconst 0, 1) := by decide +kernel
theorem dL_version_2 : decode cL_version 2 = .ok (.aload_n 0, 1) := by decide +kernel
theorem dL_version_3 : decode cL_version 3 = .ok (.iload_n 1, 1) := by decide +kernel
theorem dL_version_4 : decode cL_version 4 = .ok (.iload_n 2, 1) := by decide +kernel
theorem dL_version_5 : decode cL_version 5 = .ok (.invokevirtual 38, 3) := by decide +kernel
theorem dL_version_8 : decode cL_version 8 = .ok (.i2l, 1) := by decide +kernel
theorem dL_version_9 : decode cL_version 9 = .ok (.lastore, 1) := by decide +kernel
theorem dL_version_10 : decode cL_version 10 = .ok (.goto 11, 3) := by decide +kernel
theorem dL_version_13 : decode cL_version 13 = .ok (.astore 4, 2) := by decide +kernel
theorem dL_version_15 : decode cL_version 15 = .ok (.iconst 1, 1) := by decide +kernel
theorem dL_version_16 : decode cL_version 16 = .ok (.ireturn, 1) := by decide +kernel
theorem dL_version_17 : decode cL_version 17 = .ok (.astore 4, 2) := by decide +kernel
theorem dL_version_19 : decode cL_version 19 = .ok (.iconst 2, 1) := by decide +kernel
theorem dL_version_20 : decode cL_version 20 = .ok (.ireturn, 1) := by decide +kernel
theorem dL_version_21 : decode cL_version 21 = .ok (.iconst 0, 1) := by decide +kernel
theorem dL_version_22 : decode cL_version 22 = .ok (.ireturn, 1) := by decide +kernel
theorem dL_zoneOf_0 : decode cL_zoneOf 0 = .ok (.aload_n 3, 1) := by decide +kernel
theorem dL_zoneOf_1 : decode cL_zoneOf 1 = .ok (.iconst 0, 1) := by decide +kernel
theorem dL_zoneOf_2 : decode cL_zoneOf 2 = .ok (.aload_n 0, 1) := by decide +kernel
theorem dL_zoneOf_3 : decode cL_zoneOf 3 = .ok (.iload_n 1, 1) := by decide +kernel
theorem dL_zoneOf_4 : decode cL_zoneOf 4 = .ok (.iload_n 2, 1) := by decide +kernel
theorem dL_zoneOf_5 : decode cL_zoneOf 5 = .ok (.invokevirtual 41, 3) := by decide +kernel
theorem dL_zoneOf_8 : decode cL_zoneOf 8 = .ok (.i2l, 1) := by decide +kernel
theorem dL_zoneOf_9 : decode cL_zoneOf 9 = .ok (.lastore, 1) := by decide +kernel
theorem dL_zoneOf_10 : decode cL_zoneOf 10 = .ok (.goto 11, 3) := by decide +kernel
theorem dL_zoneOf_13 : decode cL_zoneOf 13 = .ok (.astore 4, 2) := by decide +kernel
theorem dL_zoneOf_15 : decode cL_zoneOf 15 = .ok (.iconst 1, 1) := by decide +kernel
theorem dL_zoneOf_16 : decode cL_zoneOf 16 = .ok (.ireturn, 1) := by decide +kernel
theorem dL_zoneOf_17 : decode cL_zoneOf 17 = .ok (.astore 4, 2) := by decide +kernel
theorem dL_zoneOf_19 : decode cL_zoneOf 19 = .ok (.iconst 2, 1) := by decide +kernel
theorem dL_zoneOf_20 : decode cL_zoneOf 20 = .ok (.ireturn, 1) := by decide +kernel
theorem dL_zoneOf_21 : decode cL_zoneOf 21 = .ok (.iconst 0, 1) := by decide +kernel
theorem dL_zoneOf_22 : decode cL_zoneOf 22 = .ok (.ireturn, 1) := by decide +kernel
theorem dL_breakOf_0 : decode cL_breakOf 0 = .ok (.aload 5, 2) := by decide +kernel
theorem dL_breakOf_2 : decode cL_breakOf 2 = .ok (.iconst 0, 1) := by decide +kernel
theorem dL_breakOf_3 : decode cL_breakOf 3 = .ok (.aload_n 0, 1) := by decide +kernel
theorem dL_breakOf_4 : decode cL_breakOf 4 = .ok (.iload_n 1, 1) := by decide +kernel
theorem dL_breakOf_5 : decode cL_breakOf 5 = .ok (.iload_n 2, 1) := by decide +kernel
theorem dL_breakOf_6 : decode cL_breakOf 6 = .ok (.iload_n 3, 1) := by decide +kernel
theorem dL_breakOf_7 : decode cL_breakOf 7 = .ok (.iload 4, 2) := by decide +kernel
theorem dL_breakOf_9 : decode cL_breakOf 9 = .ok (.invokevirtual 44, 3) := by decide +kernel
theorem dL_breakOf_12 : decode cL_breakOf 12 = .ok (.i2l, 1) := by decide +kernel
theorem dL_breakOf_13 : decode cL_breakOf 13 = .ok (.lastore, 1) := by decide +kernel
theorem dL_breakOf_14 : decode cL_breakOf 14 = .ok (.goto 7, 3) := by decide +kernel
theorem dL_breakOf_17 : decode cL_breakOf 17 = .ok (.astore 6, 2) := by decide +kernel
theorem dL_breakOf_19 : decode cL_breakOf 19 = .ok (.iconst 1, 1) := by decide +kernel
theorem dL_breakOf_20 : decode cL_breakOf 20 = .ok (.ireturn, 1) := by decide +kernel
theorem dL_breakOf_21 : decode cL_breakOf 21 = .ok (.iconst 0, 1) := by decide +kernel
theorem dL_breakOf_22 : decode cL_breakOf 22 = .ok (.ireturn, 1) := by decide +kernel
theorem dL_accessorial_0 : decode cL_accessorial 0 = .ok (.aload 4, 2) := by decide +kernel
theorem dL_accessorial_2 : decode cL_accessorial 2 = .ok (.iconst 0, 1) := by decide +kernel
theorem dL_accessorial_3 : decode cL_accessorial 3 = .ok (.aload_n 0, 1) := by decide +kernel
theorem dL_accessorial_4 : decode cL_accessorial 4 = .ok (.iload_n 1, 1) := by decide +kernel
theorem dL_accessorial_5 : decode cL_accessorial 5 = .ok (.iload_n 2, 1) := by decide +kernel
theorem dL_accessorial_6 : decode cL_accessorial 6 = .ok (.iload_n 3, 1) := by decide +kernel
theorem dL_accessorial_7 : decode cL_accessorial 7 = .ok (.invokevirtual 48, 3) := by decide +kernel
theorem dL_accessorial_10 : decode cL_accessorial 10 = .ok (.i2l, 1) := by decide +kernel
theorem dL_accessorial_11 : decode cL_accessorial 11 = .ok (.lastore, 1) := by decide +kernel
theorem dL_accessorial_12 : decode cL_accessorial 12 = .ok (.goto 15, 3) := by decide +kernel
theorem dL_accessorial_15 : decode cL_accessorial 15 = .ok (.astore 5, 2) := by decide +kernel
theorem dL_accessorial_17 : decode cL_accessorial 17 = .ok (.iconst 1, 1) := by decide +kernel
theorem dL_accessorial_18 : decode cL_accessorial 18 = .ok (.ireturn, 1) := by decide +kernel
theorem dL_accessorial_19 : decode cL_accessorial 19 = .ok (.astore 5, 2) := by decide +kernel
theorem dL_accessorial_21 : decode cL_accessorial 21 = .ok (.iconst 2, 1) := by decide +kernel
theorem dL_accessorial_22 : decode cL_accessorial 22 = .ok (.ireturn, 1) := by decide +kernel
theorem dL_accessorial_23 : decode cL_accessorial 23 = .ok (.astore 5, 2) := by decide +kernel
theorem dL_accessorial_25 : decode cL_accessorial 25 = .ok (.iconst 3, 1) := by decide +kernel
theorem dL_accessorial_26 : decode cL_accessorial 26 = .ok (.ireturn, 1) := by decide +kernel
theorem dL_accessorial_27 : decode cL_accessorial 27 = .ok (.iconst 0, 1) := by decide +kernel
theorem dL_accessorial_28 : decode cL_accessorial 28 = .ok (.ireturn, 1) := by decide +kernel
theorem dL_base_0 : decode cL_base 0 = .ok (.aload 4, 2) := by decide +kernel
theorem dL_base_2 : decode cL_base 2 = .ok (.iconst 0, 1) := by decide +kernel
theorem dL_base_3 : decode cL_base 3 = .ok (.aload_n 0, 1) := by decide +kernel
theorem dL_base_4 : decode cL_base 4 = .ok (.iload_n 1, 1) := by decide +kernel
theorem dL_base_5 : decode cL_base 5 = .ok (.iload_n 2, 1) := by decide +kernel
theorem dL_base_6 : decode cL_base 6 = .ok (.iload_n 3, 1) := by decide +kernel
theorem dL_base_7 : decode cL_base 7 = .ok (.invokevirtual 52, 3) := by decide +kernel
theorem dL_base_10 : decode cL_base 10 = .ok (.i2l, 1) := by decide +kernel
theorem dL_base_11 : decode cL_base 11 = .ok (.lastore, 1) := by decide +kernel
theorem dL_base_12 : decode cL_base 12 = .ok (.goto 15, 3) := by decide +kernel
theorem dL_base_15 : decode cL_base 15 = .ok (.astore 5, 2) := by decide +kernel
theorem dL_base_17 : decode cL_base 17 = .ok (.iconst 1, 1) := by decide +kernel
theorem dL_base_18 : decode cL_base 18 = .ok (.ireturn, 1) := by decide +kernel
theorem dL_base_19 : decode cL_base 19 = .ok (.astore 5, 2) := by decide +kernel
theorem dL_base_21 : decode cL_base 21 = .ok (.iconst 2, 1) := by decide +kernel
theorem dL_base_22 : decode cL_base 22 = .ok (.ireturn, 1) := by decide +kernel
theorem dL_base_23 : decode cL_base 23 = .ok (.astore 5, 2) := by decide +kernel
theorem dL_base_25 : decode cL_base 25 = .ok (.iconst 3, 1) := by decide +kernel
theorem dL_base_26 : decode cL_base 26 = .ok (.ireturn, 1) := by decide +kernel
theorem dL_base_27 : decode cL_base 27 = .ok (.iconst 0, 1) := by decide +kernel
theorem dL_base_28 : decode cL_base 28 = .ok (.ireturn, 1) := by decide +kernel
theorem dL_ship_0 : decode cL_ship 0 = .ok (.aload 5, 2) := by decide +kernel
theorem dL_ship_2 : decode cL_ship 2 = .ok (.iconst 0, 1) := by decide +kernel
theorem dL_ship_3 : decode cL_ship 3 = .ok (.aload_n 0, 1) := by decide +kernel
theorem dL_ship_4 : decode cL_ship 4 = .ok (.iload_n 1, 1) := by decide +kernel
theorem dL_ship_5 : decode cL_ship 5 = .ok (.iload_n 2, 1) := by decide +kernel
theorem dL_ship_6 : decode cL_ship 6 = .ok (.iload_n 3, 1) := by decide +kernel
theorem dL_ship_7 : decode cL_ship 7 = .ok (.iload 4, 2) := by decide +kernel
theorem dL_ship_9 : decode cL_ship 9 = .ok (.invokevirtual 55, 3) := by decide +kernel
theorem dL_ship_12 : decode cL_ship 12 = .ok (.i2l, 1) := by decide +kernel
theorem dL_ship_13 : decode cL_ship 13 = .ok (.lastore, 1) := by decide +kernel
theorem dL_ship_14 : decode cL_ship 14 = .ok (.goto 11, 3) := by decide +kernel
theorem dL_ship_17 : decode cL_ship 17 = .ok (.astore 6, 2) := by decide +kernel
theorem dL_ship_19 : decode cL_ship 19 = .ok (.iconst 1, 1) := by decide +kernel
theorem dL_ship_20 : decode cL_ship 20 = .ok (.ireturn, 1) := by decide +kernel
theorem dL_ship_21 : decode cL_ship 21 = .ok (.astore 6, 2) := by decide +kernel
theorem dL_ship_23 : decode cL_ship 23 = .ok (.iconst 2, 1) := by decide +kernel
theorem dL_ship_24 : decode cL_ship 24 = .ok (.ireturn, 1) := by decide +kernel
theorem dL_ship_25 : decode cL_ship 25 = .ok (.iconst 0, 1) := by decide +kernel
theorem dL_ship_26 : decode cL_ship 26 = .ok (.ireturn, 1) := by decide +kernel
theorem dL_pack_0 : decode cL_pack 0 = .ok (.aload 6, 2) := by decide +kernel
theorem dL_pack_2 : decode cL_pack 2 = .ok (.iconst 0, 1) := by decide +kernel
theorem dL_pack_3 : decode cL_pack 3 = .ok (.aload_n 0, 1) := by decide +kernel
theorem dL_pack_4 : decode cL_pack 4 = .ok (.iload_n 1, 1) := by decide +kernel
theorem dL_pack_5 : decode cL_pack 5 = .ok (.iload_n 2, 1) := by decide +kernel
theorem dL_pack_6 : decode cL_pack 6 = .ok (.iload_n 3, 1) := by decide +kernel
theorem dL_pack_7 : decode cL_pack 7 = .ok (.iload 4, 2) := by decide +kernel
theorem dL_pack_9 : decode cL_pack 9 = .ok (.iload 5, 2) := by decide +kernel
theorem dL_pack_11 : decode cL_pack 11 = .ok (.invokevirtual 59, 3) := by decide +kernel
theorem dL_pack_14 : decode cL_pack 14 = .ok (.i2l, 1) := by decide +kernel
theorem dL_pack_15 : decode cL_pack 15 = .ok (.lastore, 1) := by decide +kernel
theorem dL_pack_16 : decode cL_pack 16 = .ok (.goto 15, 3) := by decide +kernel
theorem dL_pack_19 : decode cL_pack 19 = .ok (.astore 7, 2) := by decide +kernel
theorem dL_pack_21 : decode cL_pack 21 = .ok (.iconst 1, 1) := by decide +kernel
theorem dL_pack_22 : decode cL_pack 22 = .ok (.ireturn, 1) := by decide +kernel
theorem dL_pack_23 : decode cL_pack 23 = .ok (.astore 7, 2) := by decide +kernel
theorem dL_pack_25 : decode cL_pack 25 = .ok (.iconst 2, 1) := by decide +kernel
theorem dL_pack_26 : decode cL_pack 26 = .ok (.ireturn, 1) := by decide +kernel
theorem dL_pack_27 : decode cL_pack 27 = .ok (.astore 7, 2) := by decide +kernel
theorem dL_pack_29 : decode cL_pack 29 = .ok (.iconst 3, 1) := by decide +kernel
theorem dL_pack_30 : decode cL_pack 30 = .ok (.ireturn, 1) := by decide +kernel
theorem dL_pack_31 : decode cL_pack 31 = .ok (.iconst 0, 1) := by decide +kernel
theorem dL_pack_32 : decode cL_pack 32 = .ok (.ireturn, 1) := by decide +kernel
theorem dL_route_0 : decode cL_route 0 = .ok (.aload 4, 2) := by decide +kernel
theorem dL_route_2 : decode cL_route 2 = .ok (.iconst 0, 1) := by decide +kernel
theorem dL_route_3 : decode cL_route 3 = .ok (.aload_n 0, 1) := by decide +kernel
theorem dL_route_4 : decode cL_route 4 = .ok (.iload_n 1, 1) := by decide +kernel
theorem dL_route_5 : decode cL_route 5 = .ok (.iload_n 2, 1) := by decide +kernel
theorem dL_route_6 : decode cL_route 6 = .ok (.iload_n 3, 1) := by decide +kernel
theorem dL_route_7 : decode cL_route 7 = .ok (.invokevirtual 63, 3) := by decide +kernel
theorem dL_route_10 : decode cL_route 10 = .ok (.i2l, 1) := by decide +kernel
theorem dL_route_11 : decode cL_route 11 = .ok (.lastore, 1) := by decide +kernel
theorem dL_route_12 : decode cL_route 12 = .ok (.goto 15, 3) := by decide +kernel
theorem dL_route_15 : decode cL_route 15 = .ok (.astore 5, 2) := by decide +kernel
theorem dL_route_17 : decode cL_route 17 = .ok (.iconst 1, 1) := by decide +kernel
theorem dL_route_18 : decode cL_route 18 = .ok (.ireturn, 1) := by decide +kernel
theorem dL_route_19 : decode cL_route 19 = .ok (.astore 5, 2) := by decide +kernel
theorem dL_route_21 : decode cL_route 21 = .ok (.iconst 2, 1) := by decide +kernel
theorem dL_route_22 : decode cL_route 22 = .ok (.ireturn, 1) := by decide +kernel
theorem dL_route_23 : decode cL_route 23 = .ok (.astore 5, 2) := by decide +kernel
theorem dL_route_25 : decode cL_route 25 = .ok (.iconst 3, 1) := by decide +kernel
theorem dL_route_26 : decode cL_route 26 = .ok (.ireturn, 1) := by decide +kernel
theorem dL_route_27 : decode cL_route 27 = .ok (.iconst 0, 1) := by decide +kernel
theorem dL_route_28 : decode cL_route 28 = .ok (.ireturn, 1) := by decide +kernel
theorem dL_handle_0 : decode cL_handle 0 = .ok (.aload_n 3, 1) := by decide +kernel
theorem dL_handle_1 : decode cL_handle 1 = .ok (.iconst 0, 1) := by decide +kernel
theorem dL_handle_2 : decode cL_handle 2 = .ok (.aload_n 0, 1) := by decide +kernel
theorem dL_handle_3 : decode cL_handle 3 = .ok (.iload_n 1, 1) := by decide +kernel
theorem dL_handle_4 : decode cL_handle 4 = .ok (.iload_n 2, 1) := by decide +kernel
theorem dL_handle_5 : decode cL_handle 5 = .ok (.invokevirtual 66, 3) := by decide +kernel
theorem dL_handle_8 : decode cL_handle 8 = .ok (.i2l, 1) := by decide +kernel
theorem dL_handle_9 : decode cL_handle 9 = .ok (.lastore, 1) := by decide +kernel
theorem dL_handle_10 : decode cL_handle 10 = .ok (.goto 15, 3) := by decide +kernel
theorem dL_handle_13 : decode cL_handle 13 = .ok (.astore 4, 2) := by decide +kernel
theorem dL_handle_15 : decode cL_handle 15 = .ok (.iconst 1, 1) := by decide +kernel
theorem dL_handle_16 : decode cL_handle 16 = .ok (.ireturn, 1) := by decide +kernel
theorem dL_handle_17 : decode cL_handle 17 = .ok (.astore 4, 2) := by decide +kernel
theorem dL_handle_19 : decode cL_handle 19 = .ok (.iconst 2, 1) := by decide +kernel
theorem dL_handle_20 : decode cL_handle 20 = .ok (.ireturn, 1) := by decide +kernel
theorem dL_handle_21 : decode cL_handle 21 = .ok (.astore 4, 2) := by decide +kernel
theorem dL_handle_23 : decode cL_handle 23 = .ok (.iconst 3, 1) := by decide +kernel
theorem dL_handle_24 : decode cL_handle 24 = .ok (.ireturn, 1) := by decide +kernel
theorem dL_handle_25 : decode cL_handle 25 = .ok (.iconst 0, 1) := by decide +kernel
theorem dL_handle_26 : decode cL_handle 26 = .ok (.ireturn, 1) := by decide +kernel
theorem dL_shipment_0 : decode cL_shipment 0 = .ok (.aload_n 3, 1) := by decide +kernel
theorem dL_shipment_1 : decode cL_shipment 1 = .ok (.iconst 0, 1) := by decide +kernel
theorem dL_shipment_2 : decode cL_shipment 2 = .ok (.aload_n 0, 1) := by decide +kernel
theorem dL_shipment_3 : decode cL_shipment 3 = .ok (.iload_n 1, 1) := by decide +kernel
theorem dL_shipment_4 : decode cL_shipment 4 = .ok (.iload_n 2, 1) := by decide +kernel
theorem dL_shipment_5 : decode cL_shipment 5 = .ok (.invokevirtual 69, 3) := by decide +kernel
theorem dL_shipment_8 : decode cL_shipment 8 = .ok (.i2l, 1) := by decide +kernel
theorem dL_shipment_9 : decode cL_shipment 9 = .ok (.lastore, 1) := by decide +kernel
theorem dL_shipment_10 : decode cL_shipment 10 = .ok (.goto 11, 3) := by decide +kernel
theorem dL_shipment_13 : decode cL_shipment 13 = .ok (.astore 4, 2) := by decide +kernel
theorem dL_shipment_15 : decode cL_shipment 15 = .ok (.iconst 1, 1) := by decide +kernel
theorem dL_shipment_16 : decode cL_shipment 16 = .ok (.ireturn, 1) := by decide +kernel
theorem dL_shipment_17 : decode cL_shipment 17 = .ok (.astore 4, 2) := by decide +kernel
theorem dL_shipment_19 : decode cL_shipment 19 = .ok (.iconst 2, 1) := by decide +kernel
theorem dL_shipment_20 : decode cL_shipment 20 = .ok (.ireturn, 1) := by decide +kernel
theorem dL_shipment_21 : decode cL_shipment 21 = .ok (.iconst 0, 1) := by decide +kernel
theorem dL_shipment_22 : decode cL_shipment 22 = .ok (.ireturn, 1) := by decide +kernel
theorem dL_rate_0 : decode cL_rate 0 = .ok (.aload_n 2, 1) := by decide +kernel
theorem dL_rate_1 : decode cL_rate 1 = .ok (.iconst 0, 1) := by decide +kernel
theorem dL_rate_2 : decode cL_rate 2 = .ok (.aload_n 0, 1) := by decide +kernel
theorem dL_rate_3 : decode cL_rate 3 = .ok (.iload_n 1, 1) := by decide +kernel
theorem dL_rate_4 : decode cL_rate 4 = .ok (.invokevirtual 72, 3) := by decide +kernel
theorem dL_rate_7 : decode cL_rate 7 = .ok (.i2l, 1) := by decide +kernel
theorem dL_rate_8 : decode cL_rate 8 = .ok (.lastore, 1) := by decide +kernel
theorem dL_rate_9 : decode cL_rate 9 = .ok (.goto 9, 3) := by decide +kernel
theorem dL_rate_12 : decode cL_rate 12 = .ok (.astore_n 3, 1) := by decide +kernel
theorem dL_rate_13 : decode cL_rate 13 = .ok (.iconst 1, 1) := by decide +kernel
theorem dL_rate_14 : decode cL_rate 14 = .ok (.ireturn, 1) := by decide +kernel
theorem dL_rate_15 : decode cL_rate 15 = .ok (.astore_n 3, 1) := by decide +kernel
theorem dL_rate_16 : decode cL_rate 16 = .ok (.iconst 2, 1) := by decide +kernel
theorem dL_rate_17 : decode cL_rate 17 = .ok (.ireturn, 1) := by decide +kernel
theorem dL_rate_18 : decode cL_rate 18 = .ok (.iconst 0, 1) := by decide +kernel
theorem dL_rate_19 : decode cL_rate 19 = .ok (.ireturn, 1) := by decide +kernel
theorem dL_rating_0 : decode cL_rating 0 = .ok (.aload_n 3, 1) := by decide +kernel
theorem dL_rating_1 : decode cL_rating 1 = .ok (.iconst 0, 1) := by decide +kernel
theorem dL_rating_2 : decode cL_rating 2 = .ok (.aload_n 0, 1) := by decide +kernel
theorem dL_rating_3 : decode cL_rating 3 = .ok (.iload_n 1, 1) := by decide +kernel
theorem dL_rating_4 : decode cL_rating 4 = .ok (.iload_n 2, 1) := by decide +kernel
theorem dL_rating_5 : decode cL_rating 5 = .ok (.invokevirtual 75, 3) := by decide +kernel
theorem dL_rating_8 : decode cL_rating 8 = .ok (.i2l, 1) := by decide +kernel
theorem dL_rating_9 : decode cL_rating 9 = .ok (.lastore, 1) := by decide +kernel
theorem dL_rating_10 : decode cL_rating 10 = .ok (.goto 15, 3) := by decide +kernel
theorem dL_rating_13 : decode cL_rating 13 = .ok (.astore 4, 2) := by decide +kernel
theorem dL_rating_15 : decode cL_rating 15 = .ok (.iconst 1, 1) := by decide +kernel
theorem dL_rating_16 : decode cL_rating 16 = .ok (.ireturn, 1) := by decide +kernel
theorem dL_rating_17 : decode cL_rating 17 = .ok (.astore 4, 2) := by decide +kernel
theorem dL_rating_19 : decode cL_rating 19 = .ok (.iconst 2, 1) := by decide +kernel
theorem dL_rating_20 : decode cL_rating 20 = .ok (.ireturn, 1) := by decide +kernel
theorem dL_rating_21 : decode cL_rating 21 = .ok (.astore 4, 2) := by decide +kernel
theorem dL_rating_23 : decode cL_rating 23 = .ok (.iconst 3, 1) := by decide +kernel
theorem dL_rating_24 : decode cL_rating 24 = .ok (.ireturn, 1) := by decide +kernel
theorem dL_rating_25 : decode cL_rating 25 = .ok (.iconst 0, 1) := by decide +kernel
theorem dL_rating_26 : decode cL_rating 26 = .ok (.ireturn, 1) := by decide +kernel
theorem dL_refuses_0 : decode cL_refuses 0 = .ok (.aload_n 2, 1) := by decide +kernel
theorem dL_refuses_1 : decode cL_refuses 1 = .ok (.iconst 0, 1) := by decide +kernel
theorem dL_refuses_2 : decode cL_refuses 2 = .ok (.aload_n 0, 1) := by decide +kernel
theorem dL_refuses_3 : decode cL_refuses 3 = .ok (.iload_n 1, 1) := by decide +kernel
theorem dL_refuses_4 : decode cL_refuses 4 = .ok (.invokevirtual 78, 3) := by decide +kernel
theorem dL_refuses_7 : decode cL_refuses 7 = .ok (.i2l, 1) := by decide +kernel
theorem dL_refuses_8 : decode cL_refuses 8 = .ok (.lastore, 1) := by decide +kernel
theorem dL_refuses_9 : decode cL_refuses 9 = .ok (.goto 6, 3) := by decide +kernel
theorem dL_refuses_12 : decode cL_refuses 12 = .ok (.astore_n 3, 1) := by decide +kernel
theorem dL_refuses_13 : decode cL_refuses 13 = .ok (.iconst 1, 1) := by decide +kernel
theorem dL_refuses_14 : decode cL_refuses 14 = .ok (.ireturn, 1) := by decide +kernel
theorem dL_refuses_15 : decode cL_refuses 15 = .ok (.iconst 0, 1) := by decide +kernel
theorem dL_refuses_16 : decode cL_refuses 16 = .ok (.ireturn, 1) := by decide +kernel
theorem dL_refusal_0 : decode cL_refusal 0 = .ok (.aload_n 2, 1) := by decide +kernel
theorem dL_refusal_1 : decode cL_refusal 1 = .ok (.iconst 0, 1) := by decide +kernel
theorem dL_refusal_2 : decode cL_refusal 2 = .ok (.aload_n 0, 1) := by decide +kernel
theorem dL_refusal_3 : decode cL_refusal 3 = .ok (.iload_n 1, 1) := by decide +kernel
theorem dL_refusal_4 : decode cL_refusal 4 = .ok (.invokevirtual 81, 3) := by decide +kernel
theorem dL_refusal_7 : decode cL_refusal 7 = .ok (.i2l, 1) := by decide +kernel
theorem dL_refusal_8 : decode cL_refusal 8 = .ok (.lastore, 1) := by decide +kernel
theorem dL_refusal_9 : decode cL_refusal 9 = .ok (.goto 6, 3) := by decide +kernel
theorem dL_refusal_12 : decode cL_refusal 12 = .ok (.astore_n 3, 1) := by decide +kernel
theorem dL_refusal_13 : decode cL_refusal 13 = .ok (.iconst 1, 1) := by decide +kernel
theorem dL_refusal_14 : decode cL_refusal 14 = .ok (.ireturn, 1) := by decide +kernel
theorem dL_refusal_15 : decode cL_refusal 15 = .ok (.iconst 0, 1) := by decide +kernel
theorem dL_refusal_16 : decode cL_refusal 16 = .ok (.ireturn, 1) := by decide +kernel
theorem dL_meanPrice_0 : decode cL_meanPrice 0 = .ok (.aload_n 2, 1) := by decide +kernel
theorem dL_meanPrice_1 : decode cL_meanPrice 1 = .ok (.iconst 0, 1) := by decide +kernel
theorem dL_meanPrice_2 : decode cL_meanPrice 2 = .ok (.aload_n 0, 1) := by decide +kernel
theorem dL_meanPrice_3 : decode cL_meanPrice 3 = .ok (.iload_n 1, 1) := by decide +kernel
theorem dL_meanPrice_4 : decode cL_meanPrice 4 = .ok (.invokevirtual 85, 3) := by decide +kernel
theorem dL_meanPrice_7 : decode cL_meanPrice 7 = .ok (.dastore, 1) := by decide +kernel
theorem dL_meanPrice_8 : decode cL_meanPrice 8 = .ok (.goto 9, 3) := by decide +kernel
theorem dL_meanPrice_11 : decode cL_meanPrice 11 = .ok (.astore_n 3, 1) := by decide +kernel
theorem dL_meanPrice_12 : decode cL_meanPrice 12 = .ok (.iconst 1, 1) := by decide +kernel
theorem dL_meanPrice_13 : decode cL_meanPrice 13 = .ok (.ireturn, 1) := by decide +kernel
theorem dL_meanPrice_14 : decode cL_meanPrice 14 = .ok (.astore_n 3, 1) := by decide +kernel
theorem dL_meanPrice_15 : decode cL_meanPrice 15 = .ok (.iconst 2, 1) := by decide +kernel
theorem dL_meanPrice_16 : decode cL_meanPrice 16 = .ok (.ireturn, 1) := by decide +kernel
theorem dL_meanPrice_17 : decode cL_meanPrice 17 = .ok (.iconst 0, 1) := by decide +kernel
theorem dL_meanPrice_18 : decode cL_meanPrice 18 = .ok (.ireturn, 1) := by decide +kernel
theorem dL_consolidate_0 : decode cL_consolidate 0 = .ok (.aload_n 2, 1) := by decide +kernel
theorem dL_consolidate_1 : decode cL_consolidate 1 = .ok (.iconst 0, 1) := by decide +kernel
theorem dL_consolidate_2 : decode cL_consolidate 2 = .ok (.aload_n 0, 1) := by decide +kernel
theorem dL_consolidate_3 : decode cL_consolidate 3 = .ok (.iload_n 1, 1) := by decide +kernel
theorem dL_consolidate_4 : decode cL_consolidate 4 = .ok (.invokevirtual 89, 3) := by decide +kernel
theorem dL_consolidate_7 : decode cL_consolidate 7 = .ok (.i2l, 1) := by decide +kernel
theorem dL_consolidate_8 : decode cL_consolidate 8 = .ok (.lastore, 1) := by decide +kernel
theorem dL_consolidate_9 : decode cL_consolidate 9 = .ok (.goto 12, 3) := by decide +kernel
theorem dL_consolidate_12 : decode cL_consolidate 12 = .ok (.astore_n 3, 1) := by decide +kernel
theorem dL_consolidate_13 : decode cL_consolidate 13 = .ok (.iconst 1, 1) := by decide +kernel
theorem dL_consolidate_14 : decode cL_consolidate 14 = .ok (.ireturn, 1) := by decide +kernel
theorem dL_consolidate_15 : decode cL_consolidate 15 = .ok (.astore_n 3, 1) := by decide +kernel
theorem dL_consolidate_16 : decode cL_consolidate 16 = .ok (.iconst 2, 1) := by decide +kernel
theorem dL_consolidate_17 : decode cL_consolidate 17 = .ok (.ireturn, 1) := by decide +kernel
theorem dL_consolidate_18 : decode cL_consolidate 18 = .ok (.astore_n 3, 1) := by decide +kernel
theorem dL_consolidate_19 : decode cL_consolidate 19 = .ok (.iconst 3, 1) := by decide +kernel
theorem dL_consolidate_20 : decode cL_consolidate 20 = .ok (.ireturn, 1) := by decide +kernel
theorem dL_consolidate_21 : decode cL_consolidate 21 = .ok (.iconst 0, 1) := by decide +kernel
theorem dL_consolidate_22 : decode cL_consolidate 22 = .ok (.ireturn, 1) := by decide +kernel
theorem dL_group_0 : decode cL_group 0 = .ok (.aload_n 3, 1) := by decide +kernel
theorem dL_group_1 : decode cL_group 1 = .ok (.iconst 0, 1) := by decide +kernel
theorem dL_group_2 : decode cL_group 2 = .ok (.aload_n 0, 1) := by decide +kernel
theorem dL_group_3 : decode cL_group 3 = .ok (.iload_n 1, 1) := by decide +kernel
theorem dL_group_4 : decode cL_group 4 = .ok (.iload_n 2, 1) := by decide +kernel
theorem dL_group_5 : decode cL_group 5 = .ok (.invokevirtual 92, 3) := by decide +kernel
theorem dL_group_8 : decode cL_group 8 = .ok (.i2l, 1) := by decide +kernel
theorem dL_group_9 : decode cL_group 9 = .ok (.lastore, 1) := by decide +kernel
theorem dL_group_10 : decode cL_group 10 = .ok (.goto 19, 3) := by decide +kernel
theorem dL_group_13 : decode cL_group 13 = .ok (.astore 4, 2) := by decide +kernel
theorem dL_group_15 : decode cL_group 15 = .ok (.iconst 1, 1) := by decide +kernel
theorem dL_group_16 : decode cL_group 16 = .ok (.ireturn, 1) := by decide +kernel
theorem dL_group_17 : decode cL_group 17 = .ok (.astore 4, 2) := by decide +kernel
theorem dL_group_19 : decode cL_group 19 = .ok (.iconst 2, 1) := by decide +kernel
theorem dL_group_20 : decode cL_group 20 = .ok (.ireturn, 1) := by decide +kernel
theorem dL_group_21 : decode cL_group 21 = .ok (.astore 4, 2) := by decide +kernel
theorem dL_group_23 : decode cL_group 23 = .ok (.iconst 3, 1) := by decide +kernel
theorem dL_group_24 : decode cL_group 24 = .ok (.ireturn, 1) := by decide +kernel
theorem dL_group_25 : decode cL_group 25 = .ok (.astore 4, 2) := by decide +kernel
theorem dL_group_27 : decode cL_group 27 = .ok (.iconst 4, 1) := by decide +kernel
theorem dL_group_28 : decode cL_group 28 = .ok (.ireturn, 1) := by decide +kernel
theorem dL_group_29 : decode cL_group 29 = .ok (.iconst 0, 1) := by decide +kernel
theorem dL_group_30 : decode cL_group 30 = .ok (.ireturn, 1) := by decide +kernel
theorem dL_searched_0 : decode cL_searched 0 = .ok (.aload_n 2, 1) := by decide +kernel
theorem dL_searched_1 : decode cL_searched 1 = .ok (.iconst 0, 1) := by decide +kernel
theorem dL_searched_2 : decode cL_searched 2 = .ok (.aload_n 0, 1) := by decide +kernel
theorem dL_searched_3 : decode cL_searched 3 = .ok (.iload_n 1, 1) := by decide +kernel
theorem dL_searched_4 : decode cL_searched 4 = .ok (.invokevirtual 95, 3) := by decide +kernel
theorem dL_searched_7 : decode cL_searched 7 = .ok (.i2l, 1) := by decide +kernel
theorem dL_searched_8 : decode cL_searched 8 = .ok (.lastore, 1) := by decide +kernel
theorem dL_searched_9 : decode cL_searched 9 = .ok (.goto 12, 3) := by decide +kernel
theorem dL_searched_12 : decode cL_searched 12 = .ok (.astore_n 3, 1) := by decide +kernel
theorem dL_searched_13 : decode cL_searched 13 = .ok (.iconst 1, 1) := by decide +kernel
theorem dL_searched_14 : decode cL_searched 14 = .ok (.ireturn, 1) := by decide +kernel
theorem dL_searched_15 : decode cL_searched 15 = .ok (.astore_n 3, 1) := by decide +kernel
theorem dL_searched_16 : decode cL_searched 16 = .ok (.iconst 2, 1) := by decide +kernel
theorem dL_searched_17 : decode cL_searched 17 = .ok (.ireturn, 1) := by decide +kernel
theorem dL_searched_18 : decode cL_searched 18 = .ok (.astore_n 3, 1) := by decide +kernel
theorem dL_searched_19 : decode cL_searched 19 = .ok (.iconst 3, 1) := by decide +kernel
theorem dL_searched_20 : decode cL_searched 20 = .ok (.ireturn, 1) := by decide +kernel
theorem dL_searched_21 : decode cL_searched 21 = .ok (.iconst 0, 1) := by decide +kernel
theorem dL_searched_22 : decode cL_searched 22 = .ok (.ireturn, 1) := by decide +kernel
theorem dL_merged_0 : decode cL_merged 0 = .ok (.aload_n 3, 1) := by decide +kernel
theorem dL_merged_1 : decode cL_merged 1 = .ok (.iconst 0, 1) := by decide +kernel
theorem dL_merged_2 : decode cL_merged 2 = .ok (.aload_n 0, 1) := by decide +kernel
theorem dL_merged_3 : decode cL_merged 3 = .ok (.iload_n 1, 1) := by decide +kernel
theorem dL_merged_4 : decode cL_merged 4 = .ok (.iload_n 2, 1) := by decide +kernel
theorem dL_merged_5 : decode cL_merged 5 = .ok (.invokevirtual 98, 3) := by decide +kernel
theorem dL_merged_8 : decode cL_merged 8 = .ok (.i2l, 1) := by decide +kernel
theorem dL_merged_9 : decode cL_merged 9 = .ok (.lastore, 1) := by decide +kernel
theorem dL_merged_10 : decode cL_merged 10 = .ok (.goto 15, 3) := by decide +kernel
theorem dL_merged_13 : decode cL_merged 13 = .ok (.astore 4, 2) := by decide +kernel
theorem dL_merged_15 : decode cL_merged 15 = .ok (.iconst 1, 1) := by decide +kernel
theorem dL_merged_16 : decode cL_merged 16 = .ok (.ireturn, 1) := by decide +kernel
theorem dL_merged_17 : decode cL_merged 17 = .ok (.astore 4, 2) := by decide +kernel
theorem dL_merged_19 : decode cL_merged 19 = .ok (.iconst 2, 1) := by decide +kernel
theorem dL_merged_20 : decode cL_merged 20 = .ok (.ireturn, 1) := by decide +kernel
theorem dL_merged_21 : decode cL_merged 21 = .ok (.astore 4, 2) := by decide +kernel
theorem dL_merged_23 : decode cL_merged 23 = .ok (.iconst 3, 1) := by decide +kernel
theorem dL_merged_24 : decode cL_merged 24 = .ok (.ireturn, 1) := by decide +kernel
theorem dL_merged_25 : decode cL_merged 25 = .ok (.iconst 0, 1) := by decide +kernel
theorem dL_merged_26 : decode cL_merged 26 = .ok (.ireturn, 1) := by decide +kernel
theorem dL_post_0 : decode cL_post 0 = .ok (.aload_n 2, 1) := by decide +kernel
theorem dL_post_1 : decode cL_post 1 = .ok (.iconst 0, 1) := by decide +kernel
theorem dL_post_2 : decode cL_post 2 = .ok (.aload_n 0, 1) := by decide +kernel
theorem dL_post_3 : decode cL_post 3 = .ok (.iload_n 1, 1) := by decide +kernel
theorem dL_post_4 : decode cL_post 4 = .ok (.invokevirtual 101, 3) := by decide +kernel
theorem dL_post_7 : decode cL_post 7 = .ok (.i2l, 1) := by decide +kernel
theorem dL_post_8 : decode cL_post 8 = .ok (.lastore, 1) := by decide +kernel
theorem dL_post_9 : decode cL_post 9 = .ok (.goto 15, 3) := by decide +kernel
theorem dL_post_12 : decode cL_post 12 = .ok (.astore_n 3, 1) := by decide +kernel
theorem dL_post_13 : decode cL_post 13 = .ok (.iconst 1, 1) := by decide +kernel
theorem dL_post_14 : decode cL_post 14 = .ok (.ireturn, 1) := by decide +kernel
theorem dL_post_15 : decode cL_post 15 = .ok (.astore_n 3, 1) := by decide +kernel
theorem dL_post_16 : decode cL_post 16 = .ok (.iconst 2, 1) := by decide +kernel
theorem dL_post_17 : decode cL_post 17 = .ok (.ireturn, 1) := by decide +kernel
theorem dL_post_18 : decode cL_post 18 = .ok (.astore_n 3, 1) := by decide +kernel
theorem dL_post_19 : decode cL_post 19 = .ok (.iconst 3, 1) := by decide +kernel
theorem dL_post_20 : decode cL_post 20 = .ok (.ireturn, 1) := by decide +kernel
theorem dL_post_21 : decode cL_post 21 = .ok (.astore_n 3, 1) := by decide +kernel
theorem dL_post_22 : decode cL_post 22 = .ok (.iconst 4, 1) := by decide +kernel
theorem dL_post_23 : decode cL_post 23 = .ok (.ireturn, 1) := by decide +kernel
theorem dL_post_24 : decode cL_post 24 = .ok (.iconst 0, 1) := by decide +kernel
theorem dL_post_25 : decode cL_post 25 = .ok (.ireturn, 1) := by decide +kernel
theorem dL_account_0 : decode cL_account 0 = .ok (.aload_n 2, 1) := by decide +kernel
theorem dL_account_1 : decode cL_account 1 = .ok (.iconst 0, 1) := by decide +kernel
theorem dL_account_2 : decode cL_account 2 = .ok (.aload_n 0, 1) := by decide +kernel
theorem dL_account_3 : decode cL_account 3 = .ok (.iload_n 1, 1) := by decide +kernel
theorem dL_account_4 : decode cL_account 4 = .ok (.invokevirtual 104, 3) := by decide +kernel
theorem dL_account_7 : decode cL_account 7 = .ok (.i2l, 1) := by decide +kernel
theorem dL_account_8 : decode cL_account 8 = .ok (.lastore, 1) := by decide +kernel
theorem dL_account_9 : decode cL_account 9 = .ok (.goto 6, 3) := by decide +kernel
theorem dL_account_12 : decode cL_account 12 = .ok (.astore_n 3, 1) := by decide +kernel
theorem dL_account_13 : decode cL_account 13 = .ok (.iconst 1, 1) := by decide +kernel
theorem dL_account_14 : decode cL_account 14 = .ok (.ireturn, 1) := by decide +kernel
theorem dL_account_15 : decode cL_account 15 = .ok (.iconst 0, 1) := by decide +kernel
theorem dL_account_16 : decode cL_account 16 = .ok (.ireturn, 1) := by decide +kernel
theorem dL_setRebate_0 : decode cL_setRebate 0 = .ok (.aload_n 3, 1) := by decide +kernel
theorem dL_setRebate_1 : decode cL_setRebate 1 = .ok (.iconst 0, 1) := by decide +kernel
theorem dL_setRebate_2 : decode cL_setRebate 2 = .ok (.aload_n 0, 1) := by decide +kernel
theorem dL_setRebate_3 : decode cL_setRebate 3 = .ok (.iload_n 1, 1) := by decide +kernel
theorem dL_setRebate_4 : decode cL_setRebate 4 = .ok (.iload_n 2, 1) := by decide +kernel
theorem dL_setRebate_5 : decode cL_setRebate 5 = .ok (.invokevirtual 107, 3) := by decide +kernel
theorem dL_setRebate_8 : decode cL_setRebate 8 = .ok (.i2l, 1) := by decide +kernel
theorem dL_setRebate_9 : decode cL_setRebate 9 = .ok (.lastore, 1) := by decide +kernel
theorem dL_setRebate_10 : decode cL_setRebate 10 = .ok (.goto 15, 3) := by decide +kernel
theorem dL_setRebate_13 : decode cL_setRebate 13 = .ok (.astore 4, 2) := by decide +kernel
theorem dL_setRebate_15 : decode cL_setRebate 15 = .ok (.iconst 1, 1) := by decide +kernel
theorem dL_setRebate_16 : decode cL_setRebate 16 = .ok (.ireturn, 1) := by decide +kernel
theorem dL_setRebate_17 : decode cL_setRebate 17 = .ok (.astore 4, 2) := by decide +kernel
theorem dL_setRebate_19 : decode cL_setRebate 19 = .ok (.iconst 2, 1) := by decide +kernel
theorem dL_setRebate_20 : decode cL_setRebate 20 = .ok (.ireturn, 1) := by decide +kernel
theorem dL_setRebate_21 : decode cL_setRebate 21 = .ok (.astore 4, 2) := by decide +kernel
theorem dL_setRebate_23 : decode cL_setRebate 23 = .ok (.iconst 3, 1) := by decide +kernel
theorem dL_setRebate_24 : decode cL_setRebate 24 = .ok (.ireturn, 1) := by decide +kernel
theorem dL_setRebate_25 : decode cL_setRebate 25 = .ok (.iconst 0, 1) := by decide +kernel
theorem dL_setRebate_26 : decode cL_setRebate 26 = .ok (.ireturn, 1) := by decide +kernel
theorem dL_rebate_0 : decode cL_rebate 0 = .ok (.aload_n 2, 1) := by decide +kernel
theorem dL_rebate_1 : decode cL_rebate 1 = .ok (.iconst 0, 1) := by decide +kernel
theorem dL_rebate_2 : decode cL_rebate 2 = .ok (.aload_n 0, 1) := by decide +kernel
theorem dL_rebate_3 : decode cL_rebate 3 = .ok (.iload_n 1, 1) := by decide +kernel
theorem dL_rebate_4 : decode cL_rebate 4 = .ok (.invokevirtual 110, 3) := by decide +kernel
theorem dL_rebate_7 : decode cL_rebate 7 = .ok (.i2l, 1) := by decide +kernel
theorem dL_rebate_8 : decode cL_rebate 8 = .ok (.lastore, 1) := by decide +kernel
theorem dL_rebate_9 : decode cL_rebate 9 = .ok (.goto 6, 3) := by decide +kernel
theorem dL_rebate_12 : decode cL_rebate 12 = .ok (.astore_n 3, 1) := by decide +kernel
theorem dL_rebate_13 : decode cL_rebate 13 = .ok (.iconst 1, 1) := by decide +kernel
theorem dL_rebate_14 : decode cL_rebate 14 = .ok (.ireturn, 1) := by decide +kernel
theorem dL_rebate_15 : decode cL_rebate 15 = .ok (.iconst 0, 1) := by decide +kernel
theorem dL_rebate_16 : decode cL_rebate 16 = .ok (.ireturn, 1) := by decide +kernel
theorem dL_undo_0 : decode cL_undo 0 = .ok (.aload_n 1, 1) := by decide +kernel
theorem dL_undo_1 : decode cL_undo 1 = .ok (.iconst 0, 1) := by decide +kernel
theorem dL_undo_2 : decode cL_undo 2 = .ok (.aload_n 0, 1) := by decide +kernel
theorem dL_undo_3 : decode cL_undo 3 = .ok (.invokevirtual 113, 3) := by decide +kernel
theorem dL_undo_6 : decode cL_undo 6 = .ok (.i2l, 1) := by decide +kernel
theorem dL_undo_7 : decode cL_undo 7 = .ok (.lastore, 1) := by decide +kernel
theorem dL_undo_8 : decode cL_undo 8 = .ok (.goto 6, 3) := by decide +kernel
theorem dL_undo_11 : decode cL_undo 11 = .ok (.astore_n 2, 1) := by decide +kernel
theorem dL_undo_12 : decode cL_undo 12 = .ok (.iconst 1, 1) := by decide +kernel
theorem dL_undo_13 : decode cL_undo 13 = .ok (.ireturn, 1) := by decide +kernel
theorem dL_undo_14 : decode cL_undo 14 = .ok (.iconst 0, 1) := by decide +kernel
theorem dL_undo_15 : decode cL_undo 15 = .ok (.ireturn, 1) := by decide +kernel
theorem dL_restoreSnapshot_0 : decode cL_restoreSnapshot 0 = .ok (.aload_n 1, 1) := by decide +kernel
theorem dL_restoreSnapshot_1 : decode cL_restoreSnapshot 1 = .ok (.iconst 0, 1) := by decide +kernel
theorem dL_restoreSnapshot_2 : decode cL_restoreSnapshot 2 = .ok (.aload_n 0, 1) := by decide +kernel
theorem dL_restoreSnapshot_3 : decode cL_restoreSnapshot 3 = .ok (.invokevirtual 116, 3) := by decide +kernel
theorem dL_restoreSnapshot_6 : decode cL_restoreSnapshot 6 = .ok (.i2l, 1) := by decide +kernel
theorem dL_restoreSnapshot_7 : decode cL_restoreSnapshot 7 = .ok (.lastore, 1) := by decide +kernel
theorem dL_restoreSnapshot_8 : decode cL_restoreSnapshot 8 = .ok (.goto 6, 3) := by decide +kernel
theorem dL_restoreSnapshot_11 : decode cL_restoreSnapshot 11 = .ok (.astore_n 2, 1) := by decide +kernel
theorem dL_restoreSnapshot_12 : decode cL_restoreSnapshot 12 = .ok (.iconst 1, 1) := by decide +kernel
theorem dL_restoreSnapshot_13 : decode cL_restoreSnapshot 13 = .ok (.ireturn, 1) := by decide +kernel
theorem dL_restoreSnapshot_14 : decode cL_restoreSnapshot 14 = .ok (.iconst 0, 1) := by decide +kernel
theorem dL_restoreSnapshot_15 : decode cL_restoreSnapshot 15 = .ok (.ireturn, 1) := by decide +kernel
theorem dL_write_0 : decode cL_write 0 = .ok (.aload_n 3, 1) := by decide +kernel
theorem dL_write_1 : decode cL_write 1 = .ok (.iconst 0, 1) := by decide +kernel
theorem dL_write_2 : decode cL_write 2 = .ok (.aload_n 0, 1) := by decide +kernel
theorem dL_write_3 : decode cL_write 3 = .ok (.iload_n 1, 1) := by decide +kernel
theorem dL_write_4 : decode cL_write 4 = .ok (.iload_n 2, 1) := by decide +kernel
theorem dL_write_5 : decode cL_write 5 = .ok (.invokevirtual 119, 3) := by decide +kernel
theorem dL_write_8 : decode cL_write 8 = .ok (.i2l, 1) := by decide +kernel
theorem dL_write_9 : decode cL_write 9 = .ok (.lastore, 1) := by decide +kernel
theorem dL_write_10 : decode cL_write 10 = .ok (.goto 11, 3) := by decide +kernel
theorem dL_write_13 : decode cL_write 13 = .ok (.astore 4, 2) := by decide +kernel
theorem dL_write_15 : decode cL_write 15 = .ok (.iconst 1, 1) := by decide +kernel
theorem dL_write_16 : decode cL_write 16 = .ok (.ireturn, 1) := by decide +kernel
theorem dL_write_17 : decode cL_write 17 = .ok (.astore 4, 2) := by decide +kernel
theorem dL_write_19 : decode cL_write 19 = .ok (.iconst 2, 1) := by decide +kernel
theorem dL_write_20 : decode cL_write 20 = .ok (.ireturn, 1) := by decide +kernel
theorem dL_write_21 : decode cL_write 21 = .ok (.iconst 0, 1) := by decide +kernel
theorem dL_write_22 : decode cL_write 22 = .ok (.ireturn, 1) := by decide +kernel
theorem dL_paper_0 : decode cL_paper 0 = .ok (.aload_n 2, 1) := by decide +kernel
theorem dL_paper_1 : decode cL_paper 1 = .ok (.iconst 0, 1) := by decide +kernel
theorem dL_paper_2 : decode cL_paper 2 = .ok (.aload_n 0, 1) := by decide +kernel
theorem dL_paper_3 : decode cL_paper 3 = .ok (.iload_n 1, 1) := by decide +kernel
theorem dL_paper_4 : decode cL_paper 4 = .ok (.invokevirtual 122, 3) := by decide +kernel
theorem dL_paper_7 : decode cL_paper 7 = .ok (.i2l, 1) := by decide +kernel
theorem dL_paper_8 : decode cL_paper 8 = .ok (.lastore, 1) := by decide +kernel
theorem dL_paper_9 : decode cL_paper 9 = .ok (.goto 6, 3) := by decide +kernel
theorem dL_paper_12 : decode cL_paper 12 = .ok (.astore_n 3, 1) := by decide +kernel
theorem dL_paper_13 : decode cL_paper 13 = .ok (.iconst 1, 1) := by decide +kernel
theorem dL_paper_14 : decode cL_paper 14 = .ok (.ireturn, 1) := by decide +kernel
theorem dL_paper_15 : decode cL_paper 15 = .ok (.iconst 0, 1) := by decide +kernel
theorem dL_paper_16 : decode cL_paper 16 = .ok (.ireturn, 1) := by decide +kernel
end DECL
