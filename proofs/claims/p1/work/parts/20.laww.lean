set_option maxRecDepth 20000 in
theorem lww_0 : Cond.methodLink RL 13 yX10_feed ∈ lw_tbl := List.mem_of_getElem? (i := 434) (by decide +kernel)
set_option maxRecDepth 20000 in
theorem lww_1 : Cond.instanceMethod yX10_feed ∈ lw_tbl := List.mem_of_getElem? (i := 435) (by decide +kernel)
set_option maxRecDepth 20000 in
theorem lww_2 : Cond.selects RX10 yX10_feed yX10_feed ∈ lw_tbl := List.mem_of_getElem? (i := 436) (by decide +kernel)
set_option maxRecDepth 20000 in
theorem lww_3 : Cond.initialized RX10 ∈ lw_tbl := List.mem_of_getElem? (i := 106) (by decide +kernel)
set_option maxRecDepth 20000 in
theorem lww_4 : Cond.methodLink RL 17 yX11_feed ∈ lw_tbl := List.mem_of_getElem? (i := 1359) (by decide +kernel)
set_option maxRecDepth 20000 in
theorem lww_5 : Cond.instanceMethod yX11_feed ∈ lw_tbl := List.mem_of_getElem? (i := 1360) (by decide +kernel)
set_option maxRecDepth 20000 in
theorem lww_6 : Cond.selects RX11 yX11_feed yX11_feed ∈ lw_tbl := List.mem_of_getElem? (i := 1361) (by decide +kernel)
set_option maxRecDepth 20000 in
theorem lww_7 : Cond.initialized RX11 ∈ lw_tbl := List.mem_of_getElem? (i := 115) (by decide +kernel)
set_option maxRecDepth 20000 in
theorem lww_8 : Cond.methodLink RL 18 yX10_end ∈ lw_tbl := List.mem_of_getElem? (i := 441) (by decide +kernel)
set_option maxRecDepth 20000 in
theorem lww_9 : Cond.instanceMethod yX10_end ∈ lw_tbl := List.mem_of_getElem? (i := 442) (by decide +kernel)
set_option maxRecDepth 20000 in
theorem lww_10 : Cond.selects RX10 yX10_end yX10_end ∈ lw_tbl := List.mem_of_getElem? (i := 443) (by decide +kernel)
set_option maxRecDepth 20000 in
theorem lww_11 : Cond.methodLink RL 22 yX11_end ∈ lw_tbl := List.mem_of_getElem? (i := 1367) (by decide +kernel)
set_option maxRecDepth 20000 in
theorem lww_12 : Cond.instanceMethod yX11_end ∈ lw_tbl := List.mem_of_getElem? (i := 1368) (by decide +kernel)
set_option maxRecDepth 20000 in
theorem lww_13 : Cond.selects RX11 yX11_end yX11_end ∈ lw_tbl := List.mem_of_getElem? (i := 1369) (by decide +kernel)
set_option maxRecDepth 20000 in
theorem lww_14 : Cond.constantLong RL 23 (4294967295) ∈ lw_tbl := List.mem_of_getElem? (i := 1827) (by decide +kernel)
set_option maxRecDepth 20000 in
theorem lww_15 : Cond.methodLink RL 25 yX10_make ∈ lw_tbl := List.mem_of_getElem? (i := 445) (by decide +kernel)
set_option maxRecDepth 20000 in
theorem lww_16 : Cond.instanceMethod yX10_make ∈ lw_tbl := List.mem_of_getElem? (i := 446) (by decide +kernel)
set_option maxRecDepth 20000 in
theorem lww_17 : Cond.selects RX10 yX10_make yX10_make ∈ lw_tbl := List.mem_of_getElem? (i := 447) (by decide +kernel)
set_option maxRecDepth 20000 in
theorem lww_18 : Cond.methodLink RL 29 yX11_make ∈ lw_tbl := List.mem_of_getElem? (i := 1374) (by decide +kernel)
set_option maxRecDepth 20000 in
theorem lww_19 : Cond.instanceMethod yX11_make ∈ lw_tbl := List.mem_of_getElem? (i := 1375) (by decide +kernel)
set_option maxRecDepth 20000 in
theorem lww_20 : Cond.selects RX11 yX11_make yX11_make ∈ lw_tbl := List.mem_of_getElem? (i := 1376) (by decide +kernel)
set_option maxRecDepth 20000 in
theorem lww_21 : Cond.methodLink RL 30 yX10_put ∈ lw_tbl := List.mem_of_getElem? (i := 606) (by decide +kernel)
set_option maxRecDepth 20000 in
theorem lww_22 : Cond.instanceMethod yX10_put ∈ lw_tbl := List.mem_of_getElem? (i := 607) (by decide +kernel)
set_option maxRecDepth 20000 in
theorem lww_23 : Cond.selects RX10 yX10_put yX10_put ∈ lw_tbl := List.mem_of_getElem? (i := 608) (by decide +kernel)
set_option maxRecDepth 20000 in
theorem lww_24 : Cond.methodLink RL 34 yX11_put ∈ lw_tbl := List.mem_of_getElem? (i := 1462) (by decide +kernel)
set_option maxRecDepth 20000 in
theorem lww_25 : Cond.instanceMethod yX11_put ∈ lw_tbl := List.mem_of_getElem? (i := 1463) (by decide +kernel)
set_option maxRecDepth 20000 in
theorem lww_26 : Cond.selects RX11 yX11_put yX11_put ∈ lw_tbl := List.mem_of_getElem? (i := 1464) (by decide +kernel)
set_option maxRecDepth 20000 in
theorem lww_27 : Cond.methodLink RL 35 yX10_get ∈ lw_tbl := List.mem_of_getElem? (i := 687) (by decide +kernel)
set_option maxRecDepth 20000 in
theorem lww_28 : Cond.instanceMethod yX10_get ∈ lw_tbl := List.mem_of_getElem? (i := 688) (by decide +kernel)
set_option maxRecDepth 20000 in
theorem lww_29 : Cond.selects RX10 yX10_get yX10_get ∈ lw_tbl := List.mem_of_getElem? (i := 689) (by decide +kernel)
set_option maxRecDepth 20000 in
theorem lww_30 : Cond.methodLink RL 39 yX11_get ∈ lw_tbl := List.mem_of_getElem? (i := 1513) (by decide +kernel)
set_option maxRecDepth 20000 in
theorem lww_31 : Cond.instanceMethod yX11_get ∈ lw_tbl := List.mem_of_getElem? (i := 1514) (by decide +kernel)
set_option maxRecDepth 20000 in
theorem lww_32 : Cond.selects RX11 yX11_get yX11_get ∈ lw_tbl := List.mem_of_getElem? (i := 1515) (by decide +kernel)
set_option maxRecDepth 20000 in
theorem lww_33 : Cond.methodLink RL 40 yX10_drop ∈ lw_tbl := List.mem_of_getElem? (i := 697) (by decide +kernel)
set_option maxRecDepth 20000 in
theorem lww_34 : Cond.instanceMethod yX10_drop ∈ lw_tbl := List.mem_of_getElem? (i := 698) (by decide +kernel)
set_option maxRecDepth 20000 in
theorem lww_35 : Cond.selects RX10 yX10_drop yX10_drop ∈ lw_tbl := List.mem_of_getElem? (i := 699) (by decide +kernel)
set_option maxRecDepth 20000 in
theorem lww_36 : Cond.methodLink RL 44 yX11_drop ∈ lw_tbl := List.mem_of_getElem? (i := 1518) (by decide +kernel)
set_option maxRecDepth 20000 in
theorem lww_37 : Cond.instanceMethod yX11_drop ∈ lw_tbl := List.mem_of_getElem? (i := 1519) (by decide +kernel)
set_option maxRecDepth 20000 in
theorem lww_38 : Cond.selects RX11 yX11_drop yX11_drop ∈ lw_tbl := List.mem_of_getElem? (i := 1520) (by decide +kernel)
set_option maxRecDepth 20000 in
theorem lww_39 : Cond.methodLink RL 45 yX10_build ∈ lw_tbl := List.mem_of_getElem? (i := 713) (by decide +kernel)
set_option maxRecDepth 20000 in
theorem lww_40 : Cond.instanceMethod yX10_build ∈ lw_tbl := List.mem_of_getElem? (i := 714) (by decide +kernel)
set_option maxRecDepth 20000 in
theorem lww_41 : Cond.selects RX10 yX10_build yX10_build ∈ lw_tbl := List.mem_of_getElem? (i := 715) (by decide +kernel)
set_option maxRecDepth 20000 in
theorem lww_42 : Cond.methodLink RL 49 yX11_build ∈ lw_tbl := List.mem_of_getElem? (i := 1527) (by decide +kernel)
set_option maxRecDepth 20000 in
theorem lww_43 : Cond.instanceMethod yX11_build ∈ lw_tbl := List.mem_of_getElem? (i := 1528) (by decide +kernel)
set_option maxRecDepth 20000 in
theorem lww_44 : Cond.selects RX11 yX11_build yX11_build ∈ lw_tbl := List.mem_of_getElem? (i := 1529) (by decide +kernel)
set_option maxRecDepth 20000 in
theorem lww_45 : Cond.methodLink RL 50 yX10_has ∈ lw_tbl := List.mem_of_getElem? (i := 717) (by decide +kernel)
set_option maxRecDepth 20000 in
theorem lww_46 : Cond.instanceMethod yX10_has ∈ lw_tbl := List.mem_of_getElem? (i := 718) (by decide +kernel)
set_option maxRecDepth 20000 in
theorem lww_47 : Cond.selects RX10 yX10_has yX10_has ∈ lw_tbl := List.mem_of_getElem? (i := 719) (by decide +kernel)
set_option maxRecDepth 20000 in
theorem lww_48 : Cond.methodLink RL 53 yX11_has ∈ lw_tbl := List.mem_of_getElem? (i := 1531) (by decide +kernel)
set_option maxRecDepth 20000 in
theorem lww_49 : Cond.instanceMethod yX11_has ∈ lw_tbl := List.mem_of_getElem? (i := 1532) (by decide +kernel)
set_option maxRecDepth 20000 in
theorem lww_50 : Cond.selects RX11 yX11_has yX11_has ∈ lw_tbl := List.mem_of_getElem? (i := 1533) (by decide +kernel)
set_option maxRecDepth 20000 in
theorem lww_51 : Cond.methodLink RL 54 yX10_bucket ∈ lw_tbl := List.mem_of_getElem? (i := 722) (by decide +kernel)
set_option maxRecDepth 20000 in
theorem lww_52 : Cond.instanceMethod yX10_bucket ∈ lw_tbl := List.mem_of_getElem? (i := 723) (by decide +kernel)
set_option maxRecDepth 20000 in
theorem lww_53 : Cond.selects RX10 yX10_bucket yX10_bucket ∈ lw_tbl := List.mem_of_getElem? (i := 724) (by decide +kernel)
set_option maxRecDepth 20000 in
theorem lww_54 : Cond.methodLink RL 58 yX11_bucket ∈ lw_tbl := List.mem_of_getElem? (i := 1537) (by decide +kernel)
set_option maxRecDepth 20000 in
theorem lww_55 : Cond.instanceMethod yX11_bucket ∈ lw_tbl := List.mem_of_getElem? (i := 1538) (by decide +kernel)
set_option maxRecDepth 20000 in
theorem lww_56 : Cond.selects RX11 yX11_bucket yX11_bucket ∈ lw_tbl := List.mem_of_getElem? (i := 1539) (by decide +kernel)
set_option maxRecDepth 20000 in
theorem lww_57 : Cond.methodLink RL 59 yX10_room ∈ lw_tbl := List.mem_of_getElem? (i := 728) (by decide +kernel)
set_option maxRecDepth 20000 in
theorem lww_58 : Cond.instanceMethod yX10_room ∈ lw_tbl := List.mem_of_getElem? (i := 729) (by decide +kernel)
set_option maxRecDepth 20000 in
theorem lww_59 : Cond.selects RX10 yX10_room yX10_room ∈ lw_tbl := List.mem_of_getElem? (i := 730) (by decide +kernel)
set_option maxRecDepth 20000 in
theorem lww_60 : Cond.methodLink RL 62 yX11_room ∈ lw_tbl := List.mem_of_getElem? (i := 1545) (by decide +kernel)
set_option maxRecDepth 20000 in
theorem lww_61 : Cond.instanceMethod yX11_room ∈ lw_tbl := List.mem_of_getElem? (i := 1546) (by decide +kernel)
set_option maxRecDepth 20000 in
theorem lww_62 : Cond.selects RX11 yX11_room yX11_room ∈ lw_tbl := List.mem_of_getElem? (i := 1547) (by decide +kernel)
set_option maxRecDepth 20000 in
theorem lww_63 : Cond.methodLink RL 63 yX10_place ∈ lw_tbl := List.mem_of_getElem? (i := 738) (by decide +kernel)
set_option maxRecDepth 20000 in
theorem lww_64 : Cond.instanceMethod yX10_place ∈ lw_tbl := List.mem_of_getElem? (i := 739) (by decide +kernel)
set_option maxRecDepth 20000 in
theorem lww_65 : Cond.selects RX10 yX10_place yX10_place ∈ lw_tbl := List.mem_of_getElem? (i := 740) (by decide +kernel)
set_option maxRecDepth 20000 in
theorem lww_66 : Cond.methodLink RL 66 yX11_place ∈ lw_tbl := List.mem_of_getElem? (i := 1549) (by decide +kernel)
set_option maxRecDepth 20000 in
theorem lww_67 : Cond.instanceMethod yX11_place ∈ lw_tbl := List.mem_of_getElem? (i := 1550) (by decide +kernel)
set_option maxRecDepth 20000 in
theorem lww_68 : Cond.selects RX11 yX11_place yX11_place ∈ lw_tbl := List.mem_of_getElem? (i := 1551) (by decide +kernel)
set_option maxRecDepth 20000 in
theorem lww_69 : Cond.methodLink RL 67 yX10_key ∈ lw_tbl := List.mem_of_getElem? (i := 744) (by decide +kernel)
set_option maxRecDepth 20000 in
theorem lww_70 : Cond.instanceMethod yX10_key ∈ lw_tbl := List.mem_of_getElem? (i := 745) (by decide +kernel)
set_option maxRecDepth 20000 in
theorem lww_71 : Cond.selects RX10 yX10_key yX10_key ∈ lw_tbl := List.mem_of_getElem? (i := 746) (by decide +kernel)
set_option maxRecDepth 20000 in
theorem lww_72 : Cond.methodLink RL 70 yX11_key ∈ lw_tbl := List.mem_of_getElem? (i := 1553) (by decide +kernel)
set_option maxRecDepth 20000 in
theorem lww_73 : Cond.instanceMethod yX11_key ∈ lw_tbl := List.mem_of_getElem? (i := 1554) (by decide +kernel)
set_option maxRecDepth 20000 in
theorem lww_74 : Cond.selects RX11 yX11_key yX11_key ∈ lw_tbl := List.mem_of_getElem? (i := 1555) (by decide +kernel)
set_option maxRecDepth 20000 in
theorem lww_75 : Cond.methodLink RL 71 yX10_walk ∈ lw_tbl := List.mem_of_getElem? (i := 748) (by decide +kernel)
set_option maxRecDepth 20000 in
theorem lww_76 : Cond.instanceMethod yX10_walk ∈ lw_tbl := List.mem_of_getElem? (i := 749) (by decide +kernel)
set_option maxRecDepth 20000 in
theorem lww_77 : Cond.selects RX10 yX10_walk yX10_walk ∈ lw_tbl := List.mem_of_getElem? (i := 750) (by decide +kernel)
set_option maxRecDepth 20000 in
theorem lww_78 : Cond.methodLink RL 74 yX11_walk ∈ lw_tbl := List.mem_of_getElem? (i := 1557) (by decide +kernel)
set_option maxRecDepth 20000 in
theorem lww_79 : Cond.instanceMethod yX11_walk ∈ lw_tbl := List.mem_of_getElem? (i := 1558) (by decide +kernel)
set_option maxRecDepth 20000 in
theorem lww_80 : Cond.selects RX11 yX11_walk yX11_walk ∈ lw_tbl := List.mem_of_getElem? (i := 1559) (by decide +kernel)
set_option maxRecDepth 20000 in
theorem lww_81 : Cond.methodLink RL 75 yX10_below ∈ lw_tbl := List.mem_of_getElem? (i := 757) (by decide +kernel)
set_option maxRecDepth 20000 in
theorem lww_82 : Cond.instanceMethod yX10_below ∈ lw_tbl := List.mem_of_getElem? (i := 758) (by decide +kernel)
set_option maxRecDepth 20000 in
theorem lww_83 : Cond.selects RX10 yX10_below yX10_below ∈ lw_tbl := List.mem_of_getElem? (i := 759) (by decide +kernel)
set_option maxRecDepth 20000 in
theorem lww_84 : Cond.methodLink RL 78 yX11_below ∈ lw_tbl := List.mem_of_getElem? (i := 1565) (by decide +kernel)
set_option maxRecDepth 20000 in
theorem lww_85 : Cond.instanceMethod yX11_below ∈ lw_tbl := List.mem_of_getElem? (i := 1566) (by decide +kernel)
set_option maxRecDepth 20000 in
theorem lww_86 : Cond.selects RX11 yX11_below yX11_below ∈ lw_tbl := List.mem_of_getElem? (i := 1567) (by decide +kernel)
set_option maxRecDepth 20000 in
theorem lww_87 : Cond.methodLink RL 79 yX10_nearest ∈ lw_tbl := List.mem_of_getElem? (i := 762) (by decide +kernel)
set_option maxRecDepth 20000 in
theorem lww_88 : Cond.instanceMethod yX10_nearest ∈ lw_tbl := List.mem_of_getElem? (i := 763) (by decide +kernel)
set_option maxRecDepth 20000 in
theorem lww_89 : Cond.selects RX10 yX10_nearest yX10_nearest ∈ lw_tbl := List.mem_of_getElem? (i := 764) (by decide +kernel)
set_option maxRecDepth 20000 in
theorem lww_90 : Cond.methodLink RL 82 yX11_nearest ∈ lw_tbl := List.mem_of_getElem? (i := 1608) (by decide +kernel)
set_option maxRecDepth 20000 in
theorem lww_91 : Cond.instanceMethod yX11_nearest ∈ lw_tbl := List.mem_of_getElem? (i := 1609) (by decide +kernel)
set_option maxRecDepth 20000 in
theorem lww_92 : Cond.selects RX11 yX11_nearest yX11_nearest ∈ lw_tbl := List.mem_of_getElem? (i := 1610) (by decide +kernel)
set_option maxRecDepth 20000 in
theorem lww_93 : Cond.methodLink RL 83 yX10_many ∈ lw_tbl := List.mem_of_getElem? (i := 771) (by decide +kernel)
set_option maxRecDepth 20000 in
theorem lww_94 : Cond.instanceMethod yX10_many ∈ lw_tbl := List.mem_of_getElem? (i := 772) (by decide +kernel)
set_option maxRecDepth 20000 in
theorem lww_95 : Cond.selects RX10 yX10_many yX10_many ∈ lw_tbl := List.mem_of_getElem? (i := 773) (by decide +kernel)
set_option maxRecDepth 20000 in
theorem lww_96 : Cond.methodLink RL 86 yX11_many ∈ lw_tbl := List.mem_of_getElem? (i := 1569) (by decide +kernel)
set_option maxRecDepth 20000 in
theorem lww_97 : Cond.instanceMethod yX11_many ∈ lw_tbl := List.mem_of_getElem? (i := 1570) (by decide +kernel)
set_option maxRecDepth 20000 in
theorem lww_98 : Cond.selects RX11 yX11_many yX11_many ∈ lw_tbl := List.mem_of_getElem? (i := 1571) (by decide +kernel)
set_option maxRecDepth 20000 in
theorem lww_99 : Cond.methodLink RL 87 yX10_crowd ∈ lw_tbl := List.mem_of_getElem? (i := 779) (by decide +kernel)
set_option maxRecDepth 20000 in
theorem lww_100 : Cond.instanceMethod yX10_crowd ∈ lw_tbl := List.mem_of_getElem? (i := 780) (by decide +kernel)
set_option maxRecDepth 20000 in
theorem lww_101 : Cond.selects RX10 yX10_crowd yX10_crowd ∈ lw_tbl := List.mem_of_getElem? (i := 781) (by decide +kernel)
set_option maxRecDepth 20000 in
theorem lww_102 : Cond.methodLink RL 90 yX11_crowd ∈ lw_tbl := List.mem_of_getElem? (i := 1573) (by decide +kernel)
set_option maxRecDepth 20000 in
theorem lww_103 : Cond.instanceMethod yX11_crowd ∈ lw_tbl := List.mem_of_getElem? (i := 1574) (by decide +kernel)
set_option maxRecDepth 20000 in
theorem lww_104 : Cond.selects RX11 yX11_crowd yX11_crowd ∈ lw_tbl := List.mem_of_getElem? (i := 1575) (by decide +kernel)
set_option maxRecDepth 20000 in
theorem lww_105 : Cond.methodLink RL 91 yX10_empty ∈ lw_tbl := List.mem_of_getElem? (i := 791) (by decide +kernel)
set_option maxRecDepth 20000 in
theorem lww_106 : Cond.instanceMethod yX10_empty ∈ lw_tbl := List.mem_of_getElem? (i := 792) (by decide +kernel)
set_option maxRecDepth 20000 in
theorem lww_107 : Cond.selects RX10 yX10_empty yX10_empty ∈ lw_tbl := List.mem_of_getElem? (i := 793) (by decide +kernel)
set_option maxRecDepth 20000 in
theorem lww_108 : Cond.methodLink RL 94 yX11_empty ∈ lw_tbl := List.mem_of_getElem? (i := 1577) (by decide +kernel)
set_option maxRecDepth 20000 in
theorem lww_109 : Cond.instanceMethod yX11_empty ∈ lw_tbl := List.mem_of_getElem? (i := 1578) (by decide +kernel)
set_option maxRecDepth 20000 in
theorem lww_110 : Cond.selects RX11 yX11_empty yX11_empty ∈ lw_tbl := List.mem_of_getElem? (i := 1579) (by decide +kernel)
set_option maxRecDepth 20000 in
theorem lww_111 : Cond.methodLink RL 95 yX10_left ∈ lw_tbl := List.mem_of_getElem? (i := 795) (by decide +kernel)
set_option maxRecDepth 20000 in
theorem lww_112 : Cond.instanceMethod yX10_left ∈ lw_tbl := List.mem_of_getElem? (i := 796) (by decide +kernel)
set_option maxRecDepth 20000 in
theorem lww_113 : Cond.selects RX10 yX10_left yX10_left ∈ lw_tbl := List.mem_of_getElem? (i := 797) (by decide +kernel)
set_option maxRecDepth 20000 in
theorem lww_114 : Cond.methodLink RL 98 yX11_left ∈ lw_tbl := List.mem_of_getElem? (i := 1581) (by decide +kernel)
set_option maxRecDepth 20000 in
theorem lww_115 : Cond.instanceMethod yX11_left ∈ lw_tbl := List.mem_of_getElem? (i := 1582) (by decide +kernel)
set_option maxRecDepth 20000 in
theorem lww_116 : Cond.selects RX11 yX11_left yX11_left ∈ lw_tbl := List.mem_of_getElem? (i := 1583) (by decide +kernel)
set_option maxRecDepth 20000 in
theorem lww_117 : Cond.methodLink RL 99 yX10_outer ∈ lw_tbl := List.mem_of_getElem? (i := 799) (by decide +kernel)
set_option maxRecDepth 20000 in
theorem lww_118 : Cond.instanceMethod yX10_outer ∈ lw_tbl := List.mem_of_getElem? (i := 800) (by decide +kernel)
set_option maxRecDepth 20000 in
theorem lww_119 : Cond.selects RX10 yX10_outer yX10_outer ∈ lw_tbl := List.mem_of_getElem? (i := 801) (by decide +kernel)
set_option maxRecDepth 20000 in
theorem lww_120 : Cond.methodLink RL 103 yX11_outer ∈ lw_tbl := List.mem_of_getElem? (i := 1585) (by decide +kernel)
set_option maxRecDepth 20000 in
theorem lww_121 : Cond.instanceMethod yX11_outer ∈ lw_tbl := List.mem_of_getElem? (i := 1586) (by decide +kernel)
set_option maxRecDepth 20000 in
theorem lww_122 : Cond.selects RX11 yX11_outer yX11_outer ∈ lw_tbl := List.mem_of_getElem? (i := 1587) (by decide +kernel)
set_option maxRecDepth 20000 in
theorem lww_123 : Cond.methodLink RL 104 yX10_best ∈ lw_tbl := List.mem_of_getElem? (i := 813) (by decide +kernel)
set_option maxRecDepth 20000 in
theorem lww_124 : Cond.instanceMethod yX10_best ∈ lw_tbl := List.mem_of_getElem? (i := 814) (by decide +kernel)
set_option maxRecDepth 20000 in
theorem lww_125 : Cond.selects RX10 yX10_best yX10_best ∈ lw_tbl := List.mem_of_getElem? (i := 815) (by decide +kernel)
set_option maxRecDepth 20000 in
theorem lww_126 : Cond.methodLink RL 108 yX11_best ∈ lw_tbl := List.mem_of_getElem? (i := 1600) (by decide +kernel)
set_option maxRecDepth 20000 in
theorem lww_127 : Cond.instanceMethod yX11_best ∈ lw_tbl := List.mem_of_getElem? (i := 1601) (by decide +kernel)
set_option maxRecDepth 20000 in
theorem lww_128 : Cond.selects RX11 yX11_best yX11_best ∈ lw_tbl := List.mem_of_getElem? (i := 1602) (by decide +kernel)
set_option maxRecDepth 20000 in
theorem lww_129 : Cond.methodLink RL 109 yX10_inner ∈ lw_tbl := List.mem_of_getElem? (i := 824) (by decide +kernel)
set_option maxRecDepth 20000 in
theorem lww_130 : Cond.instanceMethod yX10_inner ∈ lw_tbl := List.mem_of_getElem? (i := 825) (by decide +kernel)
set_option maxRecDepth 20000 in
theorem lww_131 : Cond.selects RX10 yX10_inner yX10_inner ∈ lw_tbl := List.mem_of_getElem? (i := 826) (by decide +kernel)
set_option maxRecDepth 20000 in
theorem lww_132 : Cond.methodLink RL 113 yX11_inner ∈ lw_tbl := List.mem_of_getElem? (i := 1592) (by decide +kernel)
set_option maxRecDepth 20000 in
theorem lww_133 : Cond.instanceMethod yX11_inner ∈ lw_tbl := List.mem_of_getElem? (i := 1593) (by decide +kernel)
set_option maxRecDepth 20000 in
theorem lww_134 : Cond.selects RX11 yX11_inner yX11_inner ∈ lw_tbl := List.mem_of_getElem? (i := 1594) (by decide +kernel)
set_option maxRecDepth 20000 in
theorem lww_135 : Cond.methodLink RL 114 yX10_tries ∈ lw_tbl := List.mem_of_getElem? (i := 840) (by decide +kernel)
set_option maxRecDepth 20000 in
theorem lww_136 : Cond.instanceMethod yX10_tries ∈ lw_tbl := List.mem_of_getElem? (i := 841) (by decide +kernel)
set_option maxRecDepth 20000 in
theorem lww_137 : Cond.selects RX10 yX10_tries yX10_tries ∈ lw_tbl := List.mem_of_getElem? (i := 842) (by decide +kernel)
set_option maxRecDepth 20000 in
theorem lww_138 : Cond.methodLink RL 118 yX11_tries ∈ lw_tbl := List.mem_of_getElem? (i := 1596) (by decide +kernel)
set_option maxRecDepth 20000 in
theorem lww_139 : Cond.instanceMethod yX11_tries ∈ lw_tbl := List.mem_of_getElem? (i := 1597) (by decide +kernel)
set_option maxRecDepth 20000 in
theorem lww_140 : Cond.selects RX11 yX11_tries yX11_tries ∈ lw_tbl := List.mem_of_getElem? (i := 1598) (by decide +kernel)
set_option maxRecDepth 20000 in
theorem lww_141 : Cond.methodLink RL 119 yX10_would ∈ lw_tbl := List.mem_of_getElem? (i := 848) (by decide +kernel)
set_option maxRecDepth 20000 in
theorem lww_142 : Cond.instanceMethod yX10_would ∈ lw_tbl := List.mem_of_getElem? (i := 849) (by decide +kernel)
set_option maxRecDepth 20000 in
theorem lww_143 : Cond.selects RX10 yX10_would yX10_would ∈ lw_tbl := List.mem_of_getElem? (i := 850) (by decide +kernel)
set_option maxRecDepth 20000 in
theorem lww_144 : Cond.methodLink RL 122 yX11_would ∈ lw_tbl := List.mem_of_getElem? (i := 1612) (by decide +kernel)
set_option maxRecDepth 20000 in
theorem lww_145 : Cond.instanceMethod yX11_would ∈ lw_tbl := List.mem_of_getElem? (i := 1613) (by decide +kernel)
set_option maxRecDepth 20000 in
theorem lww_146 : Cond.selects RX11 yX11_would yX11_would ∈ lw_tbl := List.mem_of_getElem? (i := 1614) (by decide +kernel)
set_option maxRecDepth 20000 in
theorem lww_147 : Cond.methodLink RL 123 yX10_frozen ∈ lw_tbl := List.mem_of_getElem? (i := 853) (by decide +kernel)
set_option maxRecDepth 20000 in
theorem lww_148 : Cond.instanceMethod yX10_frozen ∈ lw_tbl := List.mem_of_getElem? (i := 854) (by decide +kernel)
set_option maxRecDepth 20000 in
theorem lww_149 : Cond.selects RX10 yX10_frozen yX10_frozen ∈ lw_tbl := List.mem_of_getElem? (i := 855) (by decide +kernel)
set_option maxRecDepth 20000 in
theorem lww_150 : Cond.methodLink RL 127 yX11_frozen ∈ lw_tbl := List.mem_of_getElem? (i := 1616) (by decide +kernel)
set_option maxRecDepth 20000 in
theorem lww_151 : Cond.instanceMethod yX11_frozen ∈ lw_tbl := List.mem_of_getElem? (i := 1617) (by decide +kernel)
set_option maxRecDepth 20000 in
theorem lww_152 : Cond.selects RX11 yX11_frozen yX11_frozen ∈ lw_tbl := List.mem_of_getElem? (i := 1618) (by decide +kernel)
set_option maxRecDepth 20000 in
theorem lww_153 : Cond.methodLink RL 128 yX10_frozenAt ∈ lw_tbl := List.mem_of_getElem? (i := 873) (by decide +kernel)
set_option maxRecDepth 20000 in
theorem lww_154 : Cond.instanceMethod yX10_frozenAt ∈ lw_tbl := List.mem_of_getElem? (i := 874) (by decide +kernel)
set_option maxRecDepth 20000 in
theorem lww_155 : Cond.selects RX10 yX10_frozenAt yX10_frozenAt ∈ lw_tbl := List.mem_of_getElem? (i := 875) (by decide +kernel)
set_option maxRecDepth 20000 in
theorem lww_156 : Cond.methodLink RL 132 yX11_frozenAt ∈ lw_tbl := List.mem_of_getElem? (i := 1633) (by decide +kernel)
set_option maxRecDepth 20000 in
theorem lww_157 : Cond.instanceMethod yX11_frozenAt ∈ lw_tbl := List.mem_of_getElem? (i := 1634) (by decide +kernel)
set_option maxRecDepth 20000 in
theorem lww_158 : Cond.selects RX11 yX11_frozenAt yX11_frozenAt ∈ lw_tbl := List.mem_of_getElem? (i := 1635) (by decide +kernel)
set_option maxRecDepth 20000 in
theorem lww_159 : Cond.methodLink RL 133 yX10_shared ∈ lw_tbl := List.mem_of_getElem? (i := 878) (by decide +kernel)
set_option maxRecDepth 20000 in
theorem lww_160 : Cond.instanceMethod yX10_shared ∈ lw_tbl := List.mem_of_getElem? (i := 879) (by decide +kernel)
set_option maxRecDepth 20000 in
theorem lww_161 : Cond.selects RX10 yX10_shared yX10_shared ∈ lw_tbl := List.mem_of_getElem? (i := 880) (by decide +kernel)
set_option maxRecDepth 20000 in
theorem lww_162 : Cond.methodLink RL 136 yX11_shared ∈ lw_tbl := List.mem_of_getElem? (i := 1637) (by decide +kernel)
set_option maxRecDepth 20000 in
theorem lww_163 : Cond.instanceMethod yX11_shared ∈ lw_tbl := List.mem_of_getElem? (i := 1638) (by decide +kernel)
set_option maxRecDepth 20000 in
theorem lww_164 : Cond.selects RX11 yX11_shared yX11_shared ∈ lw_tbl := List.mem_of_getElem? (i := 1639) (by decide +kernel)
set_option maxRecDepth 20000 in
theorem lww_165 : Cond.methodLink RL 137 yX10_join ∈ lw_tbl := List.mem_of_getElem? (i := 887) (by decide +kernel)
set_option maxRecDepth 20000 in
theorem lww_166 : Cond.instanceMethod yX10_join ∈ lw_tbl := List.mem_of_getElem? (i := 888) (by decide +kernel)
set_option maxRecDepth 20000 in
theorem lww_167 : Cond.selects RX10 yX10_join yX10_join ∈ lw_tbl := List.mem_of_getElem? (i := 889) (by decide +kernel)
set_option maxRecDepth 20000 in
theorem lww_168 : Cond.methodLink RL 140 yX11_join ∈ lw_tbl := List.mem_of_getElem? (i := 1645) (by decide +kernel)
set_option maxRecDepth 20000 in
theorem lww_169 : Cond.instanceMethod yX11_join ∈ lw_tbl := List.mem_of_getElem? (i := 1646) (by decide +kernel)
set_option maxRecDepth 20000 in
theorem lww_170 : Cond.selects RX11 yX11_join yX11_join ∈ lw_tbl := List.mem_of_getElem? (i := 1647) (by decide +kernel)
set_option maxRecDepth 20000 in
theorem lww_171 : Cond.methodLink RL 141 yX10_cut ∈ lw_tbl := List.mem_of_getElem? (i := 891) (by decide +kernel)
set_option maxRecDepth 20000 in
theorem lww_172 : Cond.instanceMethod yX10_cut ∈ lw_tbl := List.mem_of_getElem? (i := 892) (by decide +kernel)
set_option maxRecDepth 20000 in
theorem lww_173 : Cond.selects RX10 yX10_cut yX10_cut ∈ lw_tbl := List.mem_of_getElem? (i := 893) (by decide +kernel)
set_option maxRecDepth 20000 in
theorem lww_174 : Cond.methodLink RL 145 yX11_cut ∈ lw_tbl := List.mem_of_getElem? (i := 1649) (by decide +kernel)
set_option maxRecDepth 20000 in
theorem lww_175 : Cond.instanceMethod yX11_cut ∈ lw_tbl := List.mem_of_getElem? (i := 1650) (by decide +kernel)
set_option maxRecDepth 20000 in
theorem lww_176 : Cond.selects RX11 yX11_cut yX11_cut ∈ lw_tbl := List.mem_of_getElem? (i := 1651) (by decide +kernel)
set_option maxRecDepth 20000 in
theorem lww_177 : Cond.methodLink RL 146 yX10_values ∈ lw_tbl := List.mem_of_getElem? (i := 895) (by decide +kernel)
set_option maxRecDepth 20000 in
theorem lww_178 : Cond.instanceMethod yX10_values ∈ lw_tbl := List.mem_of_getElem? (i := 896) (by decide +kernel)
set_option maxRecDepth 20000 in
theorem lww_179 : Cond.selects RX10 yX10_values yX10_values ∈ lw_tbl := List.mem_of_getElem? (i := 897) (by decide +kernel)
set_option maxRecDepth 20000 in
theorem lww_180 : Cond.methodLink RL 149 yX11_values ∈ lw_tbl := List.mem_of_getElem? (i := 1653) (by decide +kernel)
set_option maxRecDepth 20000 in
theorem lww_181 : Cond.instanceMethod yX11_values ∈ lw_tbl := List.mem_of_getElem? (i := 1654) (by decide +kernel)
set_option maxRecDepth 20000 in
theorem lww_182 : Cond.selects RX11 yX11_values yX11_values ∈ lw_tbl := List.mem_of_getElem? (i := 1655) (by decide +kernel)
set_option maxRecDepth 20000 in
theorem lww_183 : Cond.methodLink RL 150 yX10_run ∈ lw_tbl := List.mem_of_getElem? (i := 907) (by decide +kernel)
set_option maxRecDepth 20000 in
theorem lww_184 : Cond.instanceMethod yX10_run ∈ lw_tbl := List.mem_of_getElem? (i := 908) (by decide +kernel)
set_option maxRecDepth 20000 in
theorem lww_185 : Cond.selects RX10 yX10_run yX10_run ∈ lw_tbl := List.mem_of_getElem? (i := 909) (by decide +kernel)
set_option maxRecDepth 20000 in
theorem lww_186 : Cond.methodLink RL 153 yX11_run ∈ lw_tbl := List.mem_of_getElem? (i := 1657) (by decide +kernel)
set_option maxRecDepth 20000 in
theorem lww_187 : Cond.instanceMethod yX11_run ∈ lw_tbl := List.mem_of_getElem? (i := 1658) (by decide +kernel)
set_option maxRecDepth 20000 in
theorem lww_188 : Cond.selects RX11 yX11_run yX11_run ∈ lw_tbl := List.mem_of_getElem? (i := 1659) (by decide +kernel)
set_option maxRecDepth 20000 in
theorem lww_189 : Cond.methodLink RL 154 yX10_ran ∈ lw_tbl := List.mem_of_getElem? (i := 1140) (by decide +kernel)
set_option maxRecDepth 20000 in
theorem lww_190 : Cond.instanceMethod yX10_ran ∈ lw_tbl := List.mem_of_getElem? (i := 1141) (by decide +kernel)
set_option maxRecDepth 20000 in
theorem lww_191 : Cond.selects RX10 yX10_ran yX10_ran ∈ lw_tbl := List.mem_of_getElem? (i := 1142) (by decide +kernel)
set_option maxRecDepth 20000 in
theorem lww_192 : Cond.methodLink RL 158 yX11_ran ∈ lw_tbl := List.mem_of_getElem? (i := 1786) (by decide +kernel)
set_option maxRecDepth 20000 in
theorem lww_193 : Cond.instanceMethod yX11_ran ∈ lw_tbl := List.mem_of_getElem? (i := 1787) (by decide +kernel)
set_option maxRecDepth 20000 in
theorem lww_194 : Cond.selects RX11 yX11_ran yX11_ran ∈ lw_tbl := List.mem_of_getElem? (i := 1788) (by decide +kernel)
set_option maxRecDepth 20000 in
theorem lww_195 : Cond.methodLink RL 159 yX10_image ∈ lw_tbl := List.mem_of_getElem? (i := 1144) (by decide +kernel)
set_option maxRecDepth 20000 in
theorem lww_196 : Cond.instanceMethod yX10_image ∈ lw_tbl := List.mem_of_getElem? (i := 1145) (by decide +kernel)
set_option maxRecDepth 20000 in
theorem lww_197 : Cond.selects RX10 yX10_image yX10_image ∈ lw_tbl := List.mem_of_getElem? (i := 1146) (by decide +kernel)
set_option maxRecDepth 20000 in
theorem lww_198 : Cond.methodLink RL 162 yX11_image ∈ lw_tbl := List.mem_of_getElem? (i := 1790) (by decide +kernel)
set_option maxRecDepth 20000 in
theorem lww_199 : Cond.instanceMethod yX11_image ∈ lw_tbl := List.mem_of_getElem? (i := 1791) (by decide +kernel)
set_option maxRecDepth 20000 in
theorem lww_200 : Cond.selects RX11 yX11_image yX11_image ∈ lw_tbl := List.mem_of_getElem? (i := 1792) (by decide +kernel)
set_option maxRecDepth 20000 in
theorem lww_201 : Cond.methodLink RL 163 yX10_octet ∈ lw_tbl := List.mem_of_getElem? (i := 1158) (by decide +kernel)
set_option maxRecDepth 20000 in
theorem lww_202 : Cond.instanceMethod yX10_octet ∈ lw_tbl := List.mem_of_getElem? (i := 1159) (by decide +kernel)
set_option maxRecDepth 20000 in
theorem lww_203 : Cond.selects RX10 yX10_octet yX10_octet ∈ lw_tbl := List.mem_of_getElem? (i := 1160) (by decide +kernel)
set_option maxRecDepth 20000 in
theorem lww_204 : Cond.methodLink RL 166 yX11_octet ∈ lw_tbl := List.mem_of_getElem? (i := 1803) (by decide +kernel)
set_option maxRecDepth 20000 in
theorem lww_205 : Cond.instanceMethod yX11_octet ∈ lw_tbl := List.mem_of_getElem? (i := 1804) (by decide +kernel)
set_option maxRecDepth 20000 in
theorem lww_206 : Cond.selects RX11 yX11_octet yX11_octet ∈ lw_tbl := List.mem_of_getElem? (i := 1805) (by decide +kernel)
set_option maxRecDepth 20000 in
theorem lww_207 : Cond.methodLink RL 167 yX10_back ∈ lw_tbl := List.mem_of_getElem? (i := 1162) (by decide +kernel)
set_option maxRecDepth 20000 in
theorem lww_208 : Cond.instanceMethod yX10_back ∈ lw_tbl := List.mem_of_getElem? (i := 1163) (by decide +kernel)
set_option maxRecDepth 20000 in
theorem lww_209 : Cond.selects RX10 yX10_back yX10_back ∈ lw_tbl := List.mem_of_getElem? (i := 1164) (by decide +kernel)
set_option maxRecDepth 20000 in
theorem lww_210 : Cond.methodLink RL 170 yX11_back ∈ lw_tbl := List.mem_of_getElem? (i := 1807) (by decide +kernel)
set_option maxRecDepth 20000 in
theorem lww_211 : Cond.instanceMethod yX11_back ∈ lw_tbl := List.mem_of_getElem? (i := 1808) (by decide +kernel)
set_option maxRecDepth 20000 in
theorem lww_212 : Cond.selects RX11 yX11_back yX11_back ∈ lw_tbl := List.mem_of_getElem? (i := 1809) (by decide +kernel)
set_option maxRecDepth 20000 in
theorem lww_213 : Cond.methodLink RL 171 yX10_copy ∈ lw_tbl := List.mem_of_getElem? (i := 1181) (by decide +kernel)
set_option maxRecDepth 20000 in
theorem lww_214 : Cond.instanceMethod yX10_copy ∈ lw_tbl := List.mem_of_getElem? (i := 1182) (by decide +kernel)
set_option maxRecDepth 20000 in
theorem lww_215 : Cond.selects RX10 yX10_copy yX10_copy ∈ lw_tbl := List.mem_of_getElem? (i := 1183) (by decide +kernel)
set_option maxRecDepth 20000 in
theorem lww_216 : Cond.methodLink RL 174 yX11_copy ∈ lw_tbl := List.mem_of_getElem? (i := 1819) (by decide +kernel)
set_option maxRecDepth 20000 in
theorem lww_217 : Cond.instanceMethod yX11_copy ∈ lw_tbl := List.mem_of_getElem? (i := 1820) (by decide +kernel)
set_option maxRecDepth 20000 in
theorem lww_218 : Cond.selects RX11 yX11_copy yX11_copy ∈ lw_tbl := List.mem_of_getElem? (i := 1821) (by decide +kernel)
set_option maxRecDepth 20000 in
theorem lww_219 : Cond.methodLink RL 175 yX10_count ∈ lw_tbl := List.mem_of_getElem? (i := 1198) (by decide +kernel)
set_option maxRecDepth 20000 in
theorem lww_220 : Cond.instanceMethod yX10_count ∈ lw_tbl := List.mem_of_getElem? (i := 1199) (by decide +kernel)
set_option maxRecDepth 20000 in
theorem lww_221 : Cond.selects RX10 yX10_count yX10_count ∈ lw_tbl := List.mem_of_getElem? (i := 1200) (by decide +kernel)
set_option maxRecDepth 20000 in
theorem lww_222 : Cond.methodLink RL 178 yX11_count ∈ lw_tbl := List.mem_of_getElem? (i := 1823) (by decide +kernel)
set_option maxRecDepth 20000 in
theorem lww_223 : Cond.instanceMethod yX11_count ∈ lw_tbl := List.mem_of_getElem? (i := 1824) (by decide +kernel)
set_option maxRecDepth 20000 in
theorem lww_224 : Cond.selects RX11 yX11_count yX11_count ∈ lw_tbl := List.mem_of_getElem? (i := 1825) (by decide +kernel)
set_option maxRecDepth 20000 in
theorem lww_225 : Cond.methodLinkNest RX5 11 yX0_init "ClashFree" ∈ lw_tbl := List.mem_of_getElem? (i := 142) (by decide +kernel)
set_option maxRecDepth 20000 in
theorem lww_226 : Cond.methodLinkNest RX6 20 yX8_init "ClashFree" ∈ lw_tbl := List.mem_of_getElem? (i := 298) (by decide +kernel)
set_option maxRecDepth 20000 in
theorem lww_227 : Cond.methodLinkNest RX9 11 yX0_init "ClashFree" ∈ lw_tbl := List.mem_of_getElem? (i := 465) (by decide +kernel)
set_option maxRecDepth 20000 in
theorem lww_228 : Cond.arrayOver (.object RX9) ∈ lw_tbl := List.mem_of_getElem? (i := 133) (by decide +kernel)
set_option maxRecDepth 20000 in
theorem lww_229 : Cond.instantiable RX0 4 ∈ lw_tbl := List.mem_of_getElem? (i := 141) (by decide +kernel)
set_option maxRecDepth 20000 in
theorem lww_230 : Cond.instantiable RX1 2 ∈ lw_tbl := List.mem_of_getElem? (i := 252) (by decide +kernel)
set_option maxRecDepth 20000 in
theorem lww_231 : Cond.instantiable RX2 3 ∈ lw_tbl := List.mem_of_getElem? (i := 467) (by decide +kernel)
set_option maxRecDepth 20000 in
theorem lww_232 : Cond.instantiable RX3 13 ∈ lw_tbl := List.mem_of_getElem? (i := 173) (by decide +kernel)
set_option maxRecDepth 20000 in
theorem lww_233 : Cond.instantiable RX4 8 ∈ lw_tbl := List.mem_of_getElem? (i := 378) (by decide +kernel)
set_option maxRecDepth 20000 in
theorem lww_234 : Cond.instantiable RX5 3 ∈ lw_tbl := List.mem_of_getElem? (i := 135) (by decide +kernel)
set_option maxRecDepth 20000 in
theorem lww_235 : Cond.instantiable RX6 15 ∈ lw_tbl := List.mem_of_getElem? (i := 267) (by decide +kernel)
set_option maxRecDepth 20000 in
theorem lww_236 : Cond.instantiable RX7 4 ∈ lw_tbl := List.mem_of_getElem? (i := 273) (by decide +kernel)
set_option maxRecDepth 20000 in
theorem lww_237 : Cond.instantiable RX8 7 ∈ lw_tbl := List.mem_of_getElem? (i := 297) (by decide +kernel)
set_option maxRecDepth 20000 in
theorem lww_238 : Cond.instantiable RX9 12 ∈ lw_tbl := List.mem_of_getElem? (i := 459) (by decide +kernel)
set_option maxRecDepth 20000 in
theorem lww_239 : Cond.instantiable RX10 7 ∈ lw_tbl := List.mem_of_getElem? (i := 125) (by decide +kernel)
set_option maxRecDepth 20000 in
theorem lww_240 : Cond.instantiable RX11 47 ∈ lw_tbl := List.mem_of_getElem? (i := 1211) (by decide +kernel)
set_option maxRecDepth 20000 in
theorem lww_241 : Cond.classLink RL 7 RX10 ∈ lw_tbl := List.mem_of_getElem? (i := 124) (by decide +kernel)
set_option maxRecDepth 20000 in
theorem lww_242 : Cond.methodLink RL 9 yX10_init ∈ lw_tbl := List.mem_of_getElem? (i := 126) (by decide +kernel)
set_option maxRecDepth 20000 in
theorem lww_243 : Cond.instanceMethod yX10_init ∈ lw_tbl := List.mem_of_getElem? (i := 127) (by decide +kernel)
set_option maxRecDepth 20000 in
theorem lww_244 : Cond.classLink RL 10 RX11 ∈ lw_tbl := List.mem_of_getElem? (i := 1210) (by decide +kernel)
set_option maxRecDepth 20000 in
theorem lww_245 : Cond.methodLink RL 12 yX11_init ∈ lw_tbl := List.mem_of_getElem? (i := 1212) (by decide +kernel)
set_option maxRecDepth 20000 in
theorem lww_246 : Cond.instanceMethod yX11_init ∈ lw_tbl := List.mem_of_getElem? (i := 1213) (by decide +kernel)
set_option maxRecDepth 20000 in
theorem g_L_c_X10_feed_13 : GoodIn lw_tbl (wsV RL 13 RX10 yX10_feed wp_c_X10_feed) := goodIn_sub (List.forall_mem_append.mpr ⟨List.forall_mem_cons.mpr ⟨lww_0, List.forall_mem_cons.mpr ⟨lww_1, List.forall_mem_cons.mpr ⟨lww_2, List.forall_mem_cons.mpr ⟨lww_3, fun _ h => absurd h List.not_mem_nil⟩⟩⟩⟩, in_c_X10_feed⟩) (by decide +kernel)
set_option maxRecDepth 20000 in
theorem g_L_c_X11_feed_17 : GoodIn lw_tbl (wsV RL 17 RX11 yX11_feed wp_c_X11_feed) := goodIn_sub (List.forall_mem_append.mpr ⟨List.forall_mem_cons.mpr ⟨lww_4, List.forall_mem_cons.mpr ⟨lww_5, List.forall_mem_cons.mpr ⟨lww_6, List.forall_mem_cons.mpr ⟨lww_7, fun _ h => absurd h List.not_mem_nil⟩⟩⟩⟩, in_c_X11_feed⟩) (by decide +kernel)
set_option maxRecDepth 20000 in
theorem g_L_c_X10_end_18 : GoodIn lw_tbl (wsV RL 18 RX10 yX10_end wp_c_X10_end) := goodIn_sub (List.forall_mem_append.mpr ⟨List.forall_mem_cons.mpr ⟨lww_8, List.forall_mem_cons.mpr ⟨lww_9, List.forall_mem_cons.mpr ⟨lww_10, List.forall_mem_cons.mpr ⟨lww_3, fun _ h => absurd h List.not_mem_nil⟩⟩⟩⟩, in_c_X10_end⟩) (by decide +kernel)
set_option maxRecDepth 20000 in
theorem g_L_c_X11_end_22 : GoodIn lw_tbl (wsV RL 22 RX11 yX11_end wp_c_X11_end) := goodIn_sub (List.forall_mem_append.mpr ⟨List.forall_mem_cons.mpr ⟨lww_11, List.forall_mem_cons.mpr ⟨lww_12, List.forall_mem_cons.mpr ⟨lww_13, List.forall_mem_cons.mpr ⟨lww_7, fun _ h => absurd h List.not_mem_nil⟩⟩⟩⟩, in_c_X11_end⟩) (by decide +kernel)
set_option maxRecDepth 20000 in
theorem g_L_c_X10_make_25 : GoodIn lw_tbl (wsV RL 25 RX10 yX10_make wp_c_X10_make) := goodIn_sub (List.forall_mem_append.mpr ⟨List.forall_mem_cons.mpr ⟨lww_15, List.forall_mem_cons.mpr ⟨lww_16, List.forall_mem_cons.mpr ⟨lww_17, List.forall_mem_cons.mpr ⟨lww_3, fun _ h => absurd h List.not_mem_nil⟩⟩⟩⟩, in_c_X10_make⟩) (by decide +kernel)
set_option maxRecDepth 20000 in
theorem g_L_c_X11_make_29 : GoodIn lw_tbl (wsV RL 29 RX11 yX11_make wp_c_X11_make) := goodIn_sub (List.forall_mem_append.mpr ⟨List.forall_mem_cons.mpr ⟨lww_18, List.forall_mem_cons.mpr ⟨lww_19, List.forall_mem_cons.mpr ⟨lww_20, List.forall_mem_cons.mpr ⟨lww_7, fun _ h => absurd h List.not_mem_nil⟩⟩⟩⟩, in_c_X11_make⟩) (by decide +kernel)
set_option maxRecDepth 20000 in
theorem g_L_c_X10_put_30 : GoodIn lw_tbl (wsV RL 30 RX10 yX10_put wp_c_X10_put) := goodIn_sub (List.forall_mem_append.mpr ⟨List.forall_mem_cons.mpr ⟨lww_21, List.forall_mem_cons.mpr ⟨lww_22, List.forall_mem_cons.mpr ⟨lww_23, List.forall_mem_cons.mpr ⟨lww_3, fun _ h => absurd h List.not_mem_nil⟩⟩⟩⟩, in_c_X10_put⟩) (by decide +kernel)
set_option maxRecDepth 20000 in
theorem g_L_c_X11_put_34 : GoodIn lw_tbl (wsV RL 34 RX11 yX11_put wp_c_X11_put) := goodIn_sub (List.forall_mem_append.mpr ⟨List.forall_mem_cons.mpr ⟨lww_24, List.forall_mem_cons.mpr ⟨lww_25, List.forall_mem_cons.mpr ⟨lww_26, List.forall_mem_cons.mpr ⟨lww_7, fun _ h => absurd h List.not_mem_nil⟩⟩⟩⟩, in_c_X11_put⟩) (by decide +kernel)
set_option maxRecDepth 20000 in
theorem g_L_c_X10_get_35 : GoodIn lw_tbl (wsV RL 35 RX10 yX10_get wp_c_X10_get) := goodIn_sub (List.forall_mem_append.mpr ⟨List.forall_mem_cons.mpr ⟨lww_27, List.forall_mem_cons.mpr ⟨lww_28, List.forall_mem_cons.mpr ⟨lww_29, List.forall_mem_cons.mpr ⟨lww_3, fun _ h => absurd h List.not_mem_nil⟩⟩⟩⟩, in_c_X10_get⟩) (by decide +kernel)
set_option maxRecDepth 20000 in
theorem g_L_c_X11_get_39 : GoodIn lw_tbl (wsV RL 39 RX11 yX11_get wp_c_X11_get) := goodIn_sub (List.forall_mem_append.mpr ⟨List.forall_mem_cons.mpr ⟨lww_30, List.forall_mem_cons.mpr ⟨lww_31, List.forall_mem_cons.mpr ⟨lww_32, List.forall_mem_cons.mpr ⟨lww_7, fun _ h => absurd h List.not_mem_nil⟩⟩⟩⟩, in_c_X11_get⟩) (by decide +kernel)
set_option maxRecDepth 20000 in
theorem g_L_c_X10_drop_40 : GoodIn lw_tbl (wsV RL 40 RX10 yX10_drop wp_c_X10_drop) := goodIn_sub (List.forall_mem_append.mpr ⟨List.forall_mem_cons.mpr ⟨lww_33, List.forall_mem_cons.mpr ⟨lww_34, List.forall_mem_cons.mpr ⟨lww_35, List.forall_mem_cons.mpr ⟨lww_3, fun _ h => absurd h List.not_mem_nil⟩⟩⟩⟩, in_c_X10_drop⟩) (by decide +kernel)
set_option maxRecDepth 20000 in
theorem g_L_c_X11_drop_44 : GoodIn lw_tbl (wsV RL 44 RX11 yX11_drop wp_c_X11_drop) := goodIn_sub (List.forall_mem_append.mpr ⟨List.forall_mem_cons.mpr ⟨lww_36, List.forall_mem_cons.mpr ⟨lww_37, List.forall_mem_cons.mpr ⟨lww_38, List.forall_mem_cons.mpr ⟨lww_7, fun _ h => absurd h List.not_mem_nil⟩⟩⟩⟩, in_c_X11_drop⟩) (by decide +kernel)
set_option maxRecDepth 20000 in
theorem g_L_c_X10_build_45 : GoodIn lw_tbl (wsV RL 45 RX10 yX10_build wp_c_X10_build) := goodIn_sub (List.forall_mem_append.mpr ⟨List.forall_mem_cons.mpr ⟨lww_39, List.forall_mem_cons.mpr ⟨lww_40, List.forall_mem_cons.mpr ⟨lww_41, List.forall_mem_cons.mpr ⟨lww_3, fun _ h => absurd h List.not_mem_nil⟩⟩⟩⟩, in_c_X10_build⟩) (by decide +kernel)
set_option maxRecDepth 20000 in
theorem g_L_c_X11_build_49 : GoodIn lw_tbl (wsV RL 49 RX11 yX11_build wp_c_X11_build) := goodIn_sub (List.forall_mem_append.mpr ⟨List.forall_mem_cons.mpr ⟨lww_42, List.forall_mem_cons.mpr ⟨lww_43, List.forall_mem_cons.mpr ⟨lww_44, List.forall_mem_cons.mpr ⟨lww_7, fun _ h => absurd h List.not_mem_nil⟩⟩⟩⟩, in_c_X11_build⟩) (by decide +kernel)
set_option maxRecDepth 20000 in
theorem g_L_c_X10_has_50 : GoodIn lw_tbl (wsV RL 50 RX10 yX10_has wp_c_X10_has) := goodIn_sub (List.forall_mem_append.mpr ⟨List.forall_mem_cons.mpr ⟨lww_45, List.forall_mem_cons.mpr ⟨lww_46, List.forall_mem_cons.mpr ⟨lww_47, List.forall_mem_cons.mpr ⟨lww_3, fun _ h => absurd h List.not_mem_nil⟩⟩⟩⟩, in_c_X10_has⟩) (by decide +kernel)
set_option maxRecDepth 20000 in
theorem g_L_c_X11_has_53 : GoodIn lw_tbl (wsV RL 53 RX11 yX11_has wp_c_X11_has) := goodIn_sub (List.forall_mem_append.mpr ⟨List.forall_mem_cons.mpr ⟨lww_48, List.forall_mem_cons.mpr ⟨lww_49, List.forall_mem_cons.mpr ⟨lww_50, List.forall_mem_cons.mpr ⟨lww_7, fun _ h => absurd h List.not_mem_nil⟩⟩⟩⟩, in_c_X11_has⟩) (by decide +kernel)
set_option maxRecDepth 20000 in
theorem g_L_c_X10_bucket_54 : GoodIn lw_tbl (wsV RL 54 RX10 yX10_bucket wp_c_X10_bucket) := goodIn_sub (List.forall_mem_append.mpr ⟨List.forall_mem_cons.mpr ⟨lww_51, List.forall_mem_cons.mpr ⟨lww_52, List.forall_mem_cons.mpr ⟨lww_53, List.forall_mem_cons.mpr ⟨lww_3, fun _ h => absurd h List.not_mem_nil⟩⟩⟩⟩, in_c_X10_bucket⟩) (by decide +kernel)
set_option maxRecDepth 20000 in
theorem g_L_c_X11_bucket_58 : GoodIn lw_tbl (wsV RL 58 RX11 yX11_bucket wp_c_X11_bucket) := goodIn_sub (List.forall_mem_append.mpr ⟨List.forall_mem_cons.mpr ⟨lww_54, List.forall_mem_cons.mpr ⟨lww_55, List.forall_mem_cons.mpr ⟨lww_56, List.forall_mem_cons.mpr ⟨lww_7, fun _ h => absurd h List.not_mem_nil⟩⟩⟩⟩, in_c_X11_bucket⟩) (by decide +kernel)
set_option maxRecDepth 20000 in
theorem g_L_c_X10_room_59 : GoodIn lw_tbl (wsV RL 59 RX10 yX10_room wp_c_X10_room) := goodIn_sub (List.forall_mem_append.mpr ⟨List.forall_mem_cons.mpr ⟨lww_57, List.forall_mem_cons.mpr ⟨lww_58, List.forall_mem_cons.mpr ⟨lww_59, List.forall_mem_cons.mpr ⟨lww_3, fun _ h => absurd h List.not_mem_nil⟩⟩⟩⟩, in_c_X10_room⟩) (by decide +kernel)
set_option maxRecDepth 20000 in
theorem g_L_c_X11_room_62 : GoodIn lw_tbl (wsV RL 62 RX11 yX11_room wp_c_X11_room) := goodIn_sub (List.forall_mem_append.mpr ⟨List.forall_mem_cons.mpr ⟨lww_60, List.forall_mem_cons.mpr ⟨lww_61, List.forall_mem_cons.mpr ⟨lww_62, List.forall_mem_cons.mpr ⟨lww_7, fun _ h => absurd h List.not_mem_nil⟩⟩⟩⟩, in_c_X11_room⟩) (by decide +kernel)
set_option maxRecDepth 20000 in
theorem g_L_c_X10_place_63 : GoodIn lw_tbl (wsV RL 63 RX10 yX10_place wp_c_X10_place) := goodIn_sub (List.forall_mem_append.mpr ⟨List.forall_mem_cons.mpr ⟨lww_63, List.forall_mem_cons.mpr ⟨lww_64, List.forall_mem_cons.mpr ⟨lww_65, List.forall_mem_cons.mpr ⟨lww_3, fun _ h => absurd h List.not_mem_nil⟩⟩⟩⟩, in_c_X10_place⟩) (by decide +kernel)
set_option maxRecDepth 20000 in
theorem g_L_c_X11_place_66 : GoodIn lw_tbl (wsV RL 66 RX11 yX11_place wp_c_X11_place) := goodIn_sub (List.forall_mem_append.mpr ⟨List.forall_mem_cons.mpr ⟨lww_66, List.forall_mem_cons.mpr ⟨lww_67, List.forall_mem_cons.mpr ⟨lww_68, List.forall_mem_cons.mpr ⟨lww_7, fun _ h => absurd h List.not_mem_nil⟩⟩⟩⟩, in_c_X11_place⟩) (by decide +kernel)
set_option maxRecDepth 20000 in
theorem g_L_c_X10_key_67 : GoodIn lw_tbl (wsV RL 67 RX10 yX10_key wp_c_X10_key) := goodIn_sub (List.forall_mem_append.mpr ⟨List.forall_mem_cons.mpr ⟨lww_69, List.forall_mem_cons.mpr ⟨lww_70, List.forall_mem_cons.mpr ⟨lww_71, List.forall_mem_cons.mpr ⟨lww_3, fun _ h => absurd h List.not_mem_nil⟩⟩⟩⟩, in_c_X10_key⟩) (by decide +kernel)
set_option maxRecDepth 20000 in
theorem g_L_c_X11_key_70 : GoodIn lw_tbl (wsV RL 70 RX11 yX11_key wp_c_X11_key) := goodIn_sub (List.forall_mem_append.mpr ⟨List.forall_mem_cons.mpr ⟨lww_72, List.forall_mem_cons.mpr ⟨lww_73, List.forall_mem_cons.mpr ⟨lww_74, List.forall_mem_cons.mpr ⟨lww_7, fun _ h => absurd h List.not_mem_nil⟩⟩⟩⟩, in_c_X11_key⟩) (by decide +kernel)
set_option maxRecDepth 20000 in
theorem g_L_c_X10_walk_71 : GoodIn lw_tbl (wsV RL 71 RX10 yX10_walk wp_c_X10_walk) := goodIn_sub (List.forall_mem_append.mpr ⟨List.forall_mem_cons.mpr ⟨lww_75, List.forall_mem_cons.mpr ⟨lww_76, List.forall_mem_cons.mpr ⟨lww_77, List.forall_mem_cons.mpr ⟨lww_3, fun _ h => absurd h List.not_mem_nil⟩⟩⟩⟩, in_c_X10_walk⟩) (by decide +kernel)
set_option maxRecDepth 20000 in
theorem g_L_c_X11_walk_74 : GoodIn lw_tbl (wsV RL 74 RX11 yX11_walk wp_c_X11_walk) := goodIn_sub (List.forall_mem_append.mpr ⟨List.forall_mem_cons.mpr ⟨lww_78, List.forall_mem_cons.mpr ⟨lww_79, List.forall_mem_cons.mpr ⟨lww_80, List.forall_mem_cons.mpr ⟨lww_7, fun _ h => absurd h List.not_mem_nil⟩⟩⟩⟩, in_c_X11_walk⟩) (by decide +kernel)
set_option maxRecDepth 20000 in
theorem g_L_c_X10_below_75 : GoodIn lw_tbl (wsV RL 75 RX10 yX10_below wp_c_X10_below) := goodIn_sub (List.forall_mem_append.mpr ⟨List.forall_mem_cons.mpr ⟨lww_81, List.forall_mem_cons.mpr ⟨lww_82, List.forall_mem_cons.mpr ⟨lww_83, List.forall_mem_cons.mpr ⟨lww_3, fun _ h => absurd h List.not_mem_nil⟩⟩⟩⟩, in_c_X10_below⟩) (by decide +kernel)
set_option maxRecDepth 20000 in
theorem g_L_c_X11_below_78 : GoodIn lw_tbl (wsV RL 78 RX11 yX11_below wp_c_X11_below) := goodIn_sub (List.forall_mem_append.mpr ⟨List.forall_mem_cons.mpr ⟨lww_84, List.forall_mem_cons.mpr ⟨lww_85, List.forall_mem_cons.mpr ⟨lww_86, List.forall_mem_cons.mpr ⟨lww_7, fun _ h => absurd h List.not_mem_nil⟩⟩⟩⟩, in_c_X11_below⟩) (by decide +kernel)
set_option maxRecDepth 20000 in
theorem g_L_c_X10_nearest_79 : GoodIn lw_tbl (wsV RL 79 RX10 yX10_nearest wp_c_X10_nearest) := goodIn_sub (List.forall_mem_append.mpr ⟨List.forall_mem_cons.mpr ⟨lww_87, List.forall_mem_cons.mpr ⟨lww_88, List.forall_mem_cons.mpr ⟨lww_89, List.forall_mem_cons.mpr ⟨lww_3, fun _ h => absurd h List.not_mem_nil⟩⟩⟩⟩, in_c_X10_nearest⟩) (by decide +kernel)
set_option maxRecDepth 20000 in
theorem g_L_c_X11_nearest_82 : GoodIn lw_tbl (wsV RL 82 RX11 yX11_nearest wp_c_X11_nearest) := goodIn_sub (List.forall_mem_append.mpr ⟨List.forall_mem_cons.mpr ⟨lww_90, List.forall_mem_cons.mpr ⟨lww_91, List.forall_mem_cons.mpr ⟨lww_92, List.forall_mem_cons.mpr ⟨lww_7, fun _ h => absurd h List.not_mem_nil⟩⟩⟩⟩, in_c_X11_nearest⟩) (by decide +kernel)
set_option maxRecDepth 20000 in
theorem g_L_c_X10_many_83 : GoodIn lw_tbl (wsV RL 83 RX10 yX10_many wp_c_X10_many) := goodIn_sub (List.forall_mem_append.mpr ⟨List.forall_mem_cons.mpr ⟨lww_93, List.forall_mem_cons.mpr ⟨lww_94, List.forall_mem_cons.mpr ⟨lww_95, List.forall_mem_cons.mpr ⟨lww_3, fun _ h => absurd h List.not_mem_nil⟩⟩⟩⟩, in_c_X10_many⟩) (by decide +kernel)
set_option maxRecDepth 20000 in
theorem g_L_c_X11_many_86 : GoodIn lw_tbl (wsV RL 86 RX11 yX11_many wp_c_X11_many) := goodIn_sub (List.forall_mem_append.mpr ⟨List.forall_mem_cons.mpr ⟨lww_96, List.forall_mem_cons.mpr ⟨lww_97, List.forall_mem_cons.mpr ⟨lww_98, List.forall_mem_cons.mpr ⟨lww_7, fun _ h => absurd h List.not_mem_nil⟩⟩⟩⟩, in_c_X11_many⟩) (by decide +kernel)
set_option maxRecDepth 20000 in
theorem g_L_c_X10_crowd_87 : GoodIn lw_tbl (wsV RL 87 RX10 yX10_crowd wp_c_X10_crowd) := goodIn_sub (List.forall_mem_append.mpr ⟨List.forall_mem_cons.mpr ⟨lww_99, List.forall_mem_cons.mpr ⟨lww_100, List.forall_mem_cons.mpr ⟨lww_101, List.forall_mem_cons.mpr ⟨lww_3, fun _ h => absurd h List.not_mem_nil⟩⟩⟩⟩, in_c_X10_crowd⟩) (by decide +kernel)
set_option maxRecDepth 20000 in
theorem g_L_c_X11_crowd_90 : GoodIn lw_tbl (wsV RL 90 RX11 yX11_crowd wp_c_X11_crowd) := goodIn_sub (List.forall_mem_append.mpr ⟨List.forall_mem_cons.mpr ⟨lww_102, List.forall_mem_cons.mpr ⟨lww_103, List.forall_mem_cons.mpr ⟨lww_104, List.forall_mem_cons.mpr ⟨lww_7, fun _ h => absurd h List.not_mem_nil⟩⟩⟩⟩, in_c_X11_crowd⟩) (by decide +kernel)
set_option maxRecDepth 20000 in
theorem g_L_c_X10_empty_91 : GoodIn lw_tbl (wsV RL 91 RX10 yX10_empty wp_c_X10_empty) := goodIn_sub (List.forall_mem_append.mpr ⟨List.forall_mem_cons.mpr ⟨lww_105, List.forall_mem_cons.mpr ⟨lww_106, List.forall_mem_cons.mpr ⟨lww_107, List.forall_mem_cons.mpr ⟨lww_3, fun _ h => absurd h List.not_mem_nil⟩⟩⟩⟩, in_c_X10_empty⟩) (by decide +kernel)
set_option maxRecDepth 20000 in
theorem g_L_c_X11_empty_94 : GoodIn lw_tbl (wsV RL 94 RX11 yX11_empty wp_c_X11_empty) := goodIn_sub (List.forall_mem_append.mpr ⟨List.forall_mem_cons.mpr ⟨lww_108, List.forall_mem_cons.mpr ⟨lww_109, List.forall_mem_cons.mpr ⟨lww_110, List.forall_mem_cons.mpr ⟨lww_7, fun _ h => absurd h List.not_mem_nil⟩⟩⟩⟩, in_c_X11_empty⟩) (by decide +kernel)
set_option maxRecDepth 20000 in
theorem g_L_c_X10_left_95 : GoodIn lw_tbl (wsV RL 95 RX10 yX10_left wp_c_X10_left) := goodIn_sub (List.forall_mem_append.mpr ⟨List.forall_mem_cons.mpr ⟨lww_111, List.forall_mem_cons.mpr ⟨lww_112, List.forall_mem_cons.mpr ⟨lww_113, List.forall_mem_cons.mpr ⟨lww_3, fun _ h => absurd h List.not_mem_nil⟩⟩⟩⟩, in_c_X10_left⟩) (by decide +kernel)
set_option maxRecDepth 20000 in
theorem g_L_c_X11_left_98 : GoodIn lw_tbl (wsV RL 98 RX11 yX11_left wp_c_X11_left) := goodIn_sub (List.forall_mem_append.mpr ⟨List.forall_mem_cons.mpr ⟨lww_114, List.forall_mem_cons.mpr ⟨lww_115, List.forall_mem_cons.mpr ⟨lww_116, List.forall_mem_cons.mpr ⟨lww_7, fun _ h => absurd h List.not_mem_nil⟩⟩⟩⟩, in_c_X11_left⟩) (by decide +kernel)
set_option maxRecDepth 20000 in
theorem g_L_c_X10_outer_99 : GoodIn lw_tbl (wsV RL 99 RX10 yX10_outer wp_c_X10_outer) := goodIn_sub (List.forall_mem_append.mpr ⟨List.forall_mem_cons.mpr ⟨lww_117, List.forall_mem_cons.mpr ⟨lww_118, List.forall_mem_cons.mpr ⟨lww_119, List.forall_mem_cons.mpr ⟨lww_3, fun _ h => absurd h List.not_mem_nil⟩⟩⟩⟩, in_c_X10_outer⟩) (by decide +kernel)
set_option maxRecDepth 20000 in
theorem g_L_c_X11_outer_103 : GoodIn lw_tbl (wsV RL 103 RX11 yX11_outer wp_c_X11_outer) := goodIn_sub (List.forall_mem_append.mpr ⟨List.forall_mem_cons.mpr ⟨lww_120, List.forall_mem_cons.mpr ⟨lww_121, List.forall_mem_cons.mpr ⟨lww_122, List.forall_mem_cons.mpr ⟨lww_7, fun _ h => absurd h List.not_mem_nil⟩⟩⟩⟩, in_c_X11_outer⟩) (by decide +kernel)
set_option maxRecDepth 20000 in
theorem g_L_c_X10_best_104 : GoodIn lw_tbl (wsV RL 104 RX10 yX10_best wp_c_X10_best) := goodIn_sub (List.forall_mem_append.mpr ⟨List.forall_mem_cons.mpr ⟨lww_123, List.forall_mem_cons.mpr ⟨lww_124, List.forall_mem_cons.mpr ⟨lww_125, List.forall_mem_cons.mpr ⟨lww_3, fun _ h => absurd h List.not_mem_nil⟩⟩⟩⟩, in_c_X10_best⟩) (by decide +kernel)
set_option maxRecDepth 20000 in
theorem g_L_c_X11_best_108 : GoodIn lw_tbl (wsV RL 108 RX11 yX11_best wp_c_X11_best) := goodIn_sub (List.forall_mem_append.mpr ⟨List.forall_mem_cons.mpr ⟨lww_126, List.forall_mem_cons.mpr ⟨lww_127, List.forall_mem_cons.mpr ⟨lww_128, List.forall_mem_cons.mpr ⟨lww_7, fun _ h => absurd h List.not_mem_nil⟩⟩⟩⟩, in_c_X11_best⟩) (by decide +kernel)
set_option maxRecDepth 20000 in
theorem g_L_c_X10_inner_109 : GoodIn lw_tbl (wsV RL 109 RX10 yX10_inner wp_c_X10_inner) := goodIn_sub (List.forall_mem_append.mpr ⟨List.forall_mem_cons.mpr ⟨lww_129, List.forall_mem_cons.mpr ⟨lww_130, List.forall_mem_cons.mpr ⟨lww_131, List.forall_mem_cons.mpr ⟨lww_3, fun _ h => absurd h List.not_mem_nil⟩⟩⟩⟩, in_c_X10_inner⟩) (by decide +kernel)
set_option maxRecDepth 20000 in
theorem g_L_c_X11_inner_113 : GoodIn lw_tbl (wsV RL 113 RX11 yX11_inner wp_c_X11_inner) := goodIn_sub (List.forall_mem_append.mpr ⟨List.forall_mem_cons.mpr ⟨lww_132, List.forall_mem_cons.mpr ⟨lww_133, List.forall_mem_cons.mpr ⟨lww_134, List.forall_mem_cons.mpr ⟨lww_7, fun _ h => absurd h List.not_mem_nil⟩⟩⟩⟩, in_c_X11_inner⟩) (by decide +kernel)
set_option maxRecDepth 20000 in
theorem g_L_c_X10_tries_114 : GoodIn lw_tbl (wsV RL 114 RX10 yX10_tries wp_c_X10_tries) := goodIn_sub (List.forall_mem_append.mpr ⟨List.forall_mem_cons.mpr ⟨lww_135, List.forall_mem_cons.mpr ⟨lww_136, List.forall_mem_cons.mpr ⟨lww_137, List.forall_mem_cons.mpr ⟨lww_3, fun _ h => absurd h List.not_mem_nil⟩⟩⟩⟩, in_c_X10_tries⟩) (by decide +kernel)
set_option maxRecDepth 20000 in
theorem g_L_c_X11_tries_118 : GoodIn lw_tbl (wsV RL 118 RX11 yX11_tries wp_c_X11_tries) := goodIn_sub (List.forall_mem_append.mpr ⟨List.forall_mem_cons.mpr ⟨lww_138, List.forall_mem_cons.mpr ⟨lww_139, List.forall_mem_cons.mpr ⟨lww_140, List.forall_mem_cons.mpr ⟨lww_7, fun _ h => absurd h List.not_mem_nil⟩⟩⟩⟩, in_c_X11_tries⟩) (by decide +kernel)
set_option maxRecDepth 20000 in
theorem g_L_c_X10_would_119 : GoodIn lw_tbl (wsV RL 119 RX10 yX10_would wp_c_X10_would) := goodIn_sub (List.forall_mem_append.mpr ⟨List.forall_mem_cons.mpr ⟨lww_141, List.forall_mem_cons.mpr ⟨lww_142, List.forall_mem_cons.mpr ⟨lww_143, List.forall_mem_cons.mpr ⟨lww_3, fun _ h => absurd h List.not_mem_nil⟩⟩⟩⟩, in_c_X10_would⟩) (by decide +kernel)
set_option maxRecDepth 20000 in
theorem g_L_c_X11_would_122 : GoodIn lw_tbl (wsV RL 122 RX11 yX11_would wp_c_X11_would) := goodIn_sub (List.forall_mem_append.mpr ⟨List.forall_mem_cons.mpr ⟨lww_144, List.forall_mem_cons.mpr ⟨lww_145, List.forall_mem_cons.mpr ⟨lww_146, List.forall_mem_cons.mpr ⟨lww_7, fun _ h => absurd h List.not_mem_nil⟩⟩⟩⟩, in_c_X11_would⟩) (by decide +kernel)
set_option maxRecDepth 20000 in
theorem g_L_c_X10_frozen_123 : GoodIn lw_tbl (wsV RL 123 RX10 yX10_frozen wp_c_X10_frozen) := goodIn_sub (List.forall_mem_append.mpr ⟨List.forall_mem_cons.mpr ⟨lww_147, List.forall_mem_cons.mpr ⟨lww_148, List.forall_mem_cons.mpr ⟨lww_149, List.forall_mem_cons.mpr ⟨lww_3, fun _ h => absurd h List.not_mem_nil⟩⟩⟩⟩, in_c_X10_frozen⟩) (by decide +kernel)
set_option maxRecDepth 20000 in
theorem g_L_c_X11_frozen_127 : GoodIn lw_tbl (wsV RL 127 RX11 yX11_frozen wp_c_X11_frozen) := goodIn_sub (List.forall_mem_append.mpr ⟨List.forall_mem_cons.mpr ⟨lww_150, List.forall_mem_cons.mpr ⟨lww_151, List.forall_mem_cons.mpr ⟨lww_152, List.forall_mem_cons.mpr ⟨lww_7, fun _ h => absurd h List.not_mem_nil⟩⟩⟩⟩, in_c_X11_frozen⟩) (by decide +kernel)
set_option maxRecDepth 20000 in
theorem g_L_c_X10_frozenAt_128 : GoodIn lw_tbl (wsV RL 128 RX10 yX10_frozenAt wp_c_X10_frozenAt) := goodIn_sub (List.forall_mem_append.mpr ⟨List.forall_mem_cons.mpr ⟨lww_153, List.forall_mem_cons.mpr ⟨lww_154, List.forall_mem_cons.mpr ⟨lww_155, List.forall_mem_cons.mpr ⟨lww_3, fun _ h => absurd h List.not_mem_nil⟩⟩⟩⟩, in_c_X10_frozenAt⟩) (by decide +kernel)
set_option maxRecDepth 20000 in
theorem g_L_c_X11_frozenAt_132 : GoodIn lw_tbl (wsV RL 132 RX11 yX11_frozenAt wp_c_X11_frozenAt) := goodIn_sub (List.forall_mem_append.mpr ⟨List.forall_mem_cons.mpr ⟨lww_156, List.forall_mem_cons.mpr ⟨lww_157, List.forall_mem_cons.mpr ⟨lww_158, List.forall_mem_cons.mpr ⟨lww_7, fun _ h => absurd h List.not_mem_nil⟩⟩⟩⟩, in_c_X11_frozenAt⟩) (by decide +kernel)
set_option maxRecDepth 20000 in
theorem g_L_c_X10_shared_133 : GoodIn lw_tbl (wsV RL 133 RX10 yX10_shared wp_c_X10_shared) := goodIn_sub (List.forall_mem_append.mpr ⟨List.forall_mem_cons.mpr ⟨lww_159, List.forall_mem_cons.mpr ⟨lww_160, List.forall_mem_cons.mpr ⟨lww_161, List.forall_mem_cons.mpr ⟨lww_3, fun _ h => absurd h List.not_mem_nil⟩⟩⟩⟩, in_c_X10_shared⟩) (by decide +kernel)
set_option maxRecDepth 20000 in
theorem g_L_c_X11_shared_136 : GoodIn lw_tbl (wsV RL 136 RX11 yX11_shared wp_c_X11_shared) := goodIn_sub (List.forall_mem_append.mpr ⟨List.forall_mem_cons.mpr ⟨lww_162, List.forall_mem_cons.mpr ⟨lww_163, List.forall_mem_cons.mpr ⟨lww_164, List.forall_mem_cons.mpr ⟨lww_7, fun _ h => absurd h List.not_mem_nil⟩⟩⟩⟩, in_c_X11_shared⟩) (by decide +kernel)
set_option maxRecDepth 20000 in
theorem g_L_c_X10_join_137 : GoodIn lw_tbl (wsV RL 137 RX10 yX10_join wp_c_X10_join) := goodIn_sub (List.forall_mem_append.mpr ⟨List.forall_mem_cons.mpr ⟨lww_165, List.forall_mem_cons.mpr ⟨lww_166, List.forall_mem_cons.mpr ⟨lww_167, List.forall_mem_cons.mpr ⟨lww_3, fun _ h => absurd h List.not_mem_nil⟩⟩⟩⟩, in_c_X10_join⟩) (by decide +kernel)
set_option maxRecDepth 20000 in
theorem g_L_c_X11_join_140 : GoodIn lw_tbl (wsV RL 140 RX11 yX11_join wp_c_X11_join) := goodIn_sub (List.forall_mem_append.mpr ⟨List.forall_mem_cons.mpr ⟨lww_168, List.forall_mem_cons.mpr ⟨lww_169, List.forall_mem_cons.mpr ⟨lww_170, List.forall_mem_cons.mpr ⟨lww_7, fun _ h => absurd h List.not_mem_nil⟩⟩⟩⟩, in_c_X11_join⟩) (by decide +kernel)
set_option maxRecDepth 20000 in
theorem g_L_c_X10_cut_141 : GoodIn lw_tbl (wsV RL 141 RX10 yX10_cut wp_c_X10_cut) := goodIn_sub (List.forall_mem_append.mpr ⟨List.forall_mem_cons.mpr ⟨lww_171, List.forall_mem_cons.mpr ⟨lww_172, List.forall_mem_cons.mpr ⟨lww_173, List.forall_mem_cons.mpr ⟨lww_3, fun _ h => absurd h List.not_mem_nil⟩⟩⟩⟩, in_c_X10_cut⟩) (by decide +kernel)
set_option maxRecDepth 20000 in
theorem g_L_c_X11_cut_145 : GoodIn lw_tbl (wsV RL 145 RX11 yX11_cut wp_c_X11_cut) := goodIn_sub (List.forall_mem_append.mpr ⟨List.forall_mem_cons.mpr ⟨lww_174, List.forall_mem_cons.mpr ⟨lww_175, List.forall_mem_cons.mpr ⟨lww_176, List.forall_mem_cons.mpr ⟨lww_7, fun _ h => absurd h List.not_mem_nil⟩⟩⟩⟩, in_c_X11_cut⟩) (by decide +kernel)
set_option maxRecDepth 20000 in
theorem g_L_c_X10_values_146 : GoodIn lw_tbl (wsV RL 146 RX10 yX10_values wp_c_X10_values) := goodIn_sub (List.forall_mem_append.mpr ⟨List.forall_mem_cons.mpr ⟨lww_177, List.forall_mem_cons.mpr ⟨lww_178, List.forall_mem_cons.mpr ⟨lww_179, List.forall_mem_cons.mpr ⟨lww_3, fun _ h => absurd h List.not_mem_nil⟩⟩⟩⟩, in_c_X10_values⟩) (by decide +kernel)
set_option maxRecDepth 20000 in
theorem g_L_c_X11_values_149 : GoodIn lw_tbl (wsV RL 149 RX11 yX11_values wp_c_X11_values) := goodIn_sub (List.forall_mem_append.mpr ⟨List.forall_mem_cons.mpr ⟨lww_180, List.forall_mem_cons.mpr ⟨lww_181, List.forall_mem_cons.mpr ⟨lww_182, List.forall_mem_cons.mpr ⟨lww_7, fun _ h => absurd h List.not_mem_nil⟩⟩⟩⟩, in_c_X11_values⟩) (by decide +kernel)
set_option maxRecDepth 20000 in
theorem g_L_c_X10_run_150 : GoodIn lw_tbl (wsV RL 150 RX10 yX10_run wp_c_X10_run) := goodIn_sub (List.forall_mem_append.mpr ⟨List.forall_mem_cons.mpr ⟨lww_183, List.forall_mem_cons.mpr ⟨lww_184, List.forall_mem_cons.mpr ⟨lww_185, List.forall_mem_cons.mpr ⟨lww_3, fun _ h => absurd h List.not_mem_nil⟩⟩⟩⟩, in_c_X10_run⟩) (by decide +kernel)
set_option maxRecDepth 20000 in
theorem g_L_c_X11_run_153 : GoodIn lw_tbl (wsV RL 153 RX11 yX11_run wp_c_X11_run) := goodIn_sub (List.forall_mem_append.mpr ⟨List.forall_mem_cons.mpr ⟨lww_186, List.forall_mem_cons.mpr ⟨lww_187, List.forall_mem_cons.mpr ⟨lww_188, List.forall_mem_cons.mpr ⟨lww_7, fun _ h => absurd h List.not_mem_nil⟩⟩⟩⟩, in_c_X11_run⟩) (by decide +kernel)
set_option maxRecDepth 20000 in
theorem g_L_c_X10_ran_154 : GoodIn lw_tbl (wsV RL 154 RX10 yX10_ran wp_c_X10_ran) := goodIn_sub (List.forall_mem_append.mpr ⟨List.forall_mem_cons.mpr ⟨lww_189, List.forall_mem_cons.mpr ⟨lww_190, List.forall_mem_cons.mpr ⟨lww_191, List.forall_mem_cons.mpr ⟨lww_3, fun _ h => absurd h List.not_mem_nil⟩⟩⟩⟩, in_c_X10_ran⟩) (by decide +kernel)
set_option maxRecDepth 20000 in
theorem g_L_c_X11_ran_158 : GoodIn lw_tbl (wsV RL 158 RX11 yX11_ran wp_c_X11_ran) := goodIn_sub (List.forall_mem_append.mpr ⟨List.forall_mem_cons.mpr ⟨lww_192, List.forall_mem_cons.mpr ⟨lww_193, List.forall_mem_cons.mpr ⟨lww_194, List.forall_mem_cons.mpr ⟨lww_7, fun _ h => absurd h List.not_mem_nil⟩⟩⟩⟩, in_c_X11_ran⟩) (by decide +kernel)
set_option maxRecDepth 20000 in
theorem g_L_c_X10_image_159 : GoodIn lw_tbl (wsV RL 159 RX10 yX10_image wp_c_X10_image) := goodIn_sub (List.forall_mem_append.mpr ⟨List.forall_mem_cons.mpr ⟨lww_195, List.forall_mem_cons.mpr ⟨lww_196, List.forall_mem_cons.mpr ⟨lww_197, List.forall_mem_cons.mpr ⟨lww_3, fun _ h => absurd h List.not_mem_nil⟩⟩⟩⟩, in_c_X10_image⟩) (by decide +kernel)
set_option maxRecDepth 20000 in
theorem g_L_c_X11_image_162 : GoodIn lw_tbl (wsV RL 162 RX11 yX11_image wp_c_X11_image) := goodIn_sub (List.forall_mem_append.mpr ⟨List.forall_mem_cons.mpr ⟨lww_198, List.forall_mem_cons.mpr ⟨lww_199, List.forall_mem_cons.mpr ⟨lww_200, List.forall_mem_cons.mpr ⟨lww_7, fun _ h => absurd h List.not_mem_nil⟩⟩⟩⟩, in_c_X11_image⟩) (by decide +kernel)
set_option maxRecDepth 20000 in
theorem g_L_c_X10_octet_163 : GoodIn lw_tbl (wsV RL 163 RX10 yX10_octet wp_c_X10_octet) := goodIn_sub (List.forall_mem_append.mpr ⟨List.forall_mem_cons.mpr ⟨lww_201, List.forall_mem_cons.mpr ⟨lww_202, List.forall_mem_cons.mpr ⟨lww_203, List.forall_mem_cons.mpr ⟨lww_3, fun _ h => absurd h List.not_mem_nil⟩⟩⟩⟩, in_c_X10_octet⟩) (by decide +kernel)
set_option maxRecDepth 20000 in
theorem g_L_c_X11_octet_166 : GoodIn lw_tbl (wsV RL 166 RX11 yX11_octet wp_c_X11_octet) := goodIn_sub (List.forall_mem_append.mpr ⟨List.forall_mem_cons.mpr ⟨lww_204, List.forall_mem_cons.mpr ⟨lww_205, List.forall_mem_cons.mpr ⟨lww_206, List.forall_mem_cons.mpr ⟨lww_7, fun _ h => absurd h List.not_mem_nil⟩⟩⟩⟩, in_c_X11_octet⟩) (by decide +kernel)
set_option maxRecDepth 20000 in
theorem g_L_c_X10_back_167 : GoodIn lw_tbl (wsV RL 167 RX10 yX10_back wp_c_X10_back) := goodIn_sub (List.forall_mem_append.mpr ⟨List.forall_mem_cons.mpr ⟨lww_207, List.forall_mem_cons.mpr ⟨lww_208, List.forall_mem_cons.mpr ⟨lww_209, List.forall_mem_cons.mpr ⟨lww_3, fun _ h => absurd h List.not_mem_nil⟩⟩⟩⟩, in_c_X10_back⟩) (by decide +kernel)
set_option maxRecDepth 20000 in
theorem g_L_c_X11_back_170 : GoodIn lw_tbl (wsV RL 170 RX11 yX11_back wp_c_X11_back) := goodIn_sub (List.forall_mem_append.mpr ⟨List.forall_mem_cons.mpr ⟨lww_210, List.forall_mem_cons.mpr ⟨lww_211, List.forall_mem_cons.mpr ⟨lww_212, List.forall_mem_cons.mpr ⟨lww_7, fun _ h => absurd h List.not_mem_nil⟩⟩⟩⟩, in_c_X11_back⟩) (by decide +kernel)
set_option maxRecDepth 20000 in
theorem g_L_c_X10_copy_171 : GoodIn lw_tbl (wsV RL 171 RX10 yX10_copy wp_c_X10_copy) := goodIn_sub (List.forall_mem_append.mpr ⟨List.forall_mem_cons.mpr ⟨lww_213, List.forall_mem_cons.mpr ⟨lww_214, List.forall_mem_cons.mpr ⟨lww_215, List.forall_mem_cons.mpr ⟨lww_3, fun _ h => absurd h List.not_mem_nil⟩⟩⟩⟩, in_c_X10_copy⟩) (by decide +kernel)
set_option maxRecDepth 20000 in
theorem g_L_c_X11_copy_174 : GoodIn lw_tbl (wsV RL 174 RX11 yX11_copy wp_c_X11_copy) := goodIn_sub (List.forall_mem_append.mpr ⟨List.forall_mem_cons.mpr ⟨lww_216, List.forall_mem_cons.mpr ⟨lww_217, List.forall_mem_cons.mpr ⟨lww_218, List.forall_mem_cons.mpr ⟨lww_7, fun _ h => absurd h List.not_mem_nil⟩⟩⟩⟩, in_c_X11_copy⟩) (by decide +kernel)
set_option maxRecDepth 20000 in
theorem g_L_c_X10_count_175 : GoodIn lw_tbl (wsV RL 175 RX10 yX10_count wp_c_X10_count) := goodIn_sub (List.forall_mem_append.mpr ⟨List.forall_mem_cons.mpr ⟨lww_219, List.forall_mem_cons.mpr ⟨lww_220, List.forall_mem_cons.mpr ⟨lww_221, List.forall_mem_cons.mpr ⟨lww_3, fun _ h => absurd h List.not_mem_nil⟩⟩⟩⟩, in_c_X10_count⟩) (by decide +kernel)
set_option maxRecDepth 20000 in
theorem g_L_c_X11_count_178 : GoodIn lw_tbl (wsV RL 178 RX11 yX11_count wp_c_X11_count) := goodIn_sub (List.forall_mem_append.mpr ⟨List.forall_mem_cons.mpr ⟨lww_222, List.forall_mem_cons.mpr ⟨lww_223, List.forall_mem_cons.mpr ⟨lww_224, List.forall_mem_cons.mpr ⟨lww_7, fun _ h => absurd h List.not_mem_nil⟩⟩⟩⟩, in_c_X11_count⟩) (by decide +kernel)
set_option maxRecDepth 20000 in
theorem g_L_c_X10_init_9 : GoodIn lw_tbl (wp_c_X10_init) := goodIn_sub (in_c_X10_init) (by decide +kernel)
set_option maxRecDepth 20000 in
theorem g_L_c_X11_init_12 : GoodIn lw_tbl (wp_c_X11_init) := goodIn_sub (in_c_X11_init) (by decide +kernel)
