set_option maxRecDepth 100000 in
theorem jq_100 : j_mfact (100, ((yX7_takeCell, cX7_takeCell, 3, none, 2, false, 7), 7, jc_X7_takeCell)) := j_Mchk_ok 1019 127 (by decide +kernel) (by decide +kernel)
set_option maxRecDepth 100000 in
theorem jq_101 : j_mfact (101, ((yX7_remove, cX7_remove, 2, none, 1, false, 7), 7, jc_X7_remove)) := j_Mchk_ok 1123 127 (by decide +kernel) (by decide +kernel)
set_option maxRecDepth 100000 in
theorem jq_102 : j_mfact (102, ((yX8_init, cX8_init, 1, none, 0, true, 8), 8, jc_X8_init)) := j_Mchk_ok 155 125 (by decide +kernel) (by decide +kernel)
set_option maxRecDepth 100000 in
theorem jq_103 : j_mfact (103, ((yX8_hasRoom, cX8_hasRoom, 2, (some .boolean), 1, false, 8), 8, jc_X8_hasRoom)) := j_Mchk_ok 597 125 (by decide +kernel) (by decide +kernel)
set_option maxRecDepth 100000 in
theorem jq_104 : j_mfact (104, ((yX8_append, cX8_append, 3, none, 1, false, 8), 8, jc_X8_append)) := j_Mchk_ok 601 125 (by decide +kernel) (by decide +kernel)
set_option maxRecDepth 100000 in
theorem jq_105 : j_mfact (105, ((yX8_clear, cX8_clear, 1, none, 0, false, 8), 8, jc_X8_clear)) := j_Mchk_ok 700 125 (by decide +kernel) (by decide +kernel)
set_option maxRecDepth 100000 in
theorem jq_106 : j_mfact (106, ((yX8_open, cX8_open, 2, none, 1, false, 8), 8, jc_X8_open)) := j_Mchk_ok 622 125 (by decide +kernel) (by decide +kernel)
set_option maxRecDepth 100000 in
theorem jq_107 : j_mfact (107, ((yX8_advance, cX8_advance, 2, none, 0, false, 8), 8, jc_X8_advance)) := j_Mchk_ok 629 125 (by decide +kernel) (by decide +kernel)
set_option maxRecDepth 100000 in
theorem jq_108 : j_mfact (108, ((yX8_isWord, cX8_isWord, 3, (some .boolean), 1, false, 8), 8, jc_X8_isWord)) := j_Mchk_ok 642 125 (by decide +kernel) (by decide +kernel)
set_option maxRecDepth 100000 in
theorem jq_109 : j_mfact (109, ((yX8_readWord, cX8_readWord, 1, none, 0, false, 8), 8, jc_X8_readWord)) := j_Mchk_ok 633 125 (by decide +kernel) (by decide +kernel)
set_option maxRecDepth 100000 in
theorem jq_110 : j_mfact (110, ((yX8_readNumber, cX8_readNumber, 1, none, 0, false, 8), 8, jc_X8_readNumber)) := j_Mchk_ok 637 125 (by decide +kernel) (by decide +kernel)
set_option maxRecDepth 100000 in
theorem jq_111 : j_mfact (111, ((yX9_init, cX9_init, 1, none, 0, true, 9), 9, jc_X9_init)) := j_Mchk_ok 147 124 (by decide +kernel) (by decide +kernel)
set_option maxRecDepth 100000 in
theorem jq_112 : j_mfact (112, ((yX9_status, cX9_status, 1, (some .int), 0, false, 9), 9, jc_X9_status)) := j_Mchk_ok 589 124 (by decide +kernel) (by decide +kernel)
set_option maxRecDepth 100000 in
theorem jq_113 : j_mfact (113, ((yX9_feed, cX9_feed, 6, (some .int), 5, false, 9), 9, jc_X9_feed)) := j_Mchk_ok 593 124 (by decide +kernel) (by decide +kernel)
set_option maxRecDepth 100000 in
theorem jq_114 : j_mfact (114, ((yX9_load, cX9_load, 4, (some .int), 1, false, 9), 9, jc_X9_load)) := j_Mchk_ok 606 124 (by decide +kernel) (by decide +kernel)
set_option maxRecDepth 100000 in
theorem jq_115 : j_mfact (115, ((yX9_fault, cX9_fault, 2, (some .int), 1, false, 9), 9, jc_X9_fault)) := j_Mchk_ok 736 124 (by decide +kernel) (by decide +kernel)
set_option maxRecDepth 100000 in
theorem jq_116 : j_mfact (116, ((yX9_many, cX9_many, 2, (some .int), 1, false, 9), 9, jc_X9_many)) := j_Mchk_ok 740 124 (by decide +kernel) (by decide +kernel)
set_option maxRecDepth 100000 in
theorem jq_117 : j_mfact (117, ((yX9_station, cX9_station, 3, (some .int), 2, false, 9), 9, jc_X9_station)) := j_Mchk_ok 797 124 (by decide +kernel) (by decide +kernel)
set_option maxRecDepth 100000 in
theorem jq_118 : j_mfact (118, ((yX9_track, cX9_track, 5, (some .int), 3, false, 9), 9, jc_X9_track)) := j_Mchk_ok 825 124 (by decide +kernel) (by decide +kernel)
set_option maxRecDepth 100000 in
theorem jq_119 : j_mfact (119, ((yX9_train, cX9_train, 3, (some .int), 2, false, 9), 9, jc_X9_train)) := j_Mchk_ok 841 124 (by decide +kernel) (by decide +kernel)
set_option maxRecDepth 100000 in
theorem jq_120 : j_mfact (120, ((yX9_fits, cX9_fits, 4, (some .int), 1, false, 9), 9, jc_X9_fits)) := j_Mchk_ok 870 124 (by decide +kernel) (by decide +kernel)
set_option maxRecDepth 100000 in
theorem jq_121 : j_mfact (121, ((yX9_why, cX9_why, 2, (some .int), 1, false, 9), 9, jc_X9_why)) := j_Mchk_ok 874 124 (by decide +kernel) (by decide +kernel)
set_option maxRecDepth 100000 in
theorem jq_122 : j_mfact (122, ((yX9_through, cX9_through, 3, (some .int), 1, false, 9), 9, jc_X9_through)) := j_Mchk_ok 882 124 (by decide +kernel) (by decide +kernel)
set_option maxRecDepth 100000 in
theorem jq_123 : j_mfact (123, ((yX9_risks, cX9_risks, 3, (some .int), 0, false, 9), 9, jc_X9_risks)) := j_Mchk_ok 886 124 (by decide +kernel) (by decide +kernel)
set_option maxRecDepth 100000 in
theorem jq_124 : j_mfact (124, ((yX9_weak, cX9_weak, 4, (some .int), 1, false, 9), 9, jc_X9_weak)) := j_Mchk_ok 890 124 (by decide +kernel) (by decide +kernel)
set_option maxRecDepth 100000 in
theorem jq_125 : j_mfact (125, ((yX9_links, cX9_links, 3, (some .int), 2, false, 9), 9, jc_X9_links)) := j_Mchk_ok 899 124 (by decide +kernel) (by decide +kernel)
set_option maxRecDepth 100000 in
theorem jq_126 : j_mfact (126, ((yX9_blocks, cX9_blocks, 2, (some .int), 1, false, 9), 9, jc_X9_blocks)) := j_Mchk_ok 907 124 (by decide +kernel) (by decide +kernel)
set_option maxRecDepth 100000 in
theorem jq_127 : j_mfact (127, ((yX9_ring, cX9_ring, 3, (some .int), 0, false, 9), 9, jc_X9_ring)) := j_Mchk_ok 917 124 (by decide +kernel) (by decide +kernel)
set_option maxRecDepth 100000 in
theorem jq_128 : j_mfact (128, ((yX9_section, cX9_section, 2, (some .int), 1, false, 9), 9, jc_X9_section)) := j_Mchk_ok 926 124 (by decide +kernel) (by decide +kernel)
set_option maxRecDepth 100000 in
theorem jq_129 : j_mfact (129, ((yX9_time, cX9_time, 5, (some .int), 3, false, 9), 9, jc_X9_time)) := j_Mchk_ok 934 124 (by decide +kernel) (by decide +kernel)
set_option maxRecDepth 100000 in
theorem jq_130 : j_mfact (130, ((yX9_together, cX9_together, 5, (some .int), 3, false, 9), 9, jc_X9_together)) := j_Mchk_ok 938 124 (by decide +kernel) (by decide +kernel)
set_option maxRecDepth 100000 in
theorem jq_131 : j_mfact (131, ((yX9_passes, cX9_passes, 3, (some .int), 2, false, 9), 9, jc_X9_passes)) := j_Mchk_ok 942 124 (by decide +kernel) (by decide +kernel)
set_option maxRecDepth 100000 in
theorem jq_132 : j_mfact (132, ((yX9_stood, cX9_stood, 2, (some .int), 1, false, 9), 9, jc_X9_stood)) := j_Mchk_ok 946 124 (by decide +kernel) (by decide +kernel)
set_option maxRecDepth 100000 in
theorem jq_133 : j_mfact (133, ((yX9_late, cX9_late, 5, (some .int), 2, false, 9), 9, jc_X9_late)) := j_Mchk_ok 950 124 (by decide +kernel) (by decide +kernel)
set_option maxRecDepth 100000 in
theorem jq_134 : j_mfact (134, ((yX9_event, cX9_event, 3, (some .int), 2, false, 9), 9, jc_X9_event)) := j_Mchk_ok 955 124 (by decide +kernel) (by decide +kernel)
set_option maxRecDepth 100000 in
theorem jq_135 : j_mfact (135, ((yX9_use, cX9_use, 2, (some .int), 1, false, 9), 9, jc_X9_use)) := j_Mchk_ok 959 124 (by decide +kernel) (by decide +kernel)
set_option maxRecDepth 100000 in
theorem jq_136 : j_mfact (136, ((yX9_gone, cX9_gone, 4, (some .int), 2, false, 9), 9, jc_X9_gone)) := j_Mchk_ok 963 124 (by decide +kernel) (by decide +kernel)
set_option maxRecDepth 100000 in
theorem jq_137 : j_mfact (137, ((yX9_waits, cX9_waits, 2, (some .int), 1, false, 9), 9, jc_X9_waits)) := j_Mchk_ok 967 124 (by decide +kernel) (by decide +kernel)
set_option maxRecDepth 100000 in
theorem jq_138 : j_mfact (138, ((yX9_ahead, cX9_ahead, 5, (some .int), 3, false, 9), 9, jc_X9_ahead)) := j_Mchk_ok 971 124 (by decide +kernel) (by decide +kernel)
set_option maxRecDepth 100000 in
theorem jq_139 : j_mfact (139, ((yX9_ends, cX9_ends, 4, (some .int), 2, false, 9), 9, jc_X9_ends)) := j_Mchk_ok 1050 124 (by decide +kernel) (by decide +kernel)
set_option maxRecDepth 100000 in
theorem jq_140 : j_mfact (140, ((yX9_when, cX9_when, 3, (some .int), 1, false, 9), 9, jc_X9_when)) := j_Mchk_ok 1062 124 (by decide +kernel) (by decide +kernel)
set_option maxRecDepth 100000 in
theorem jq_141 : j_mfact (141, ((yX9_plan, cX9_plan, 3, (some .int), 1, false, 9), 9, jc_X9_plan)) := j_Mchk_ok 1066 124 (by decide +kernel) (by decide +kernel)
set_option maxRecDepth 100000 in
theorem jq_142 : j_mfact (142, ((yX9_cost, cX9_cost, 3, (some .int), 2, false, 9), 9, jc_X9_cost)) := j_Mchk_ok 1083 124 (by decide +kernel) (by decide +kernel)
set_option maxRecDepth 100000 in
theorem jq_143 : j_mfact (143, ((yX9_slack, cX9_slack, 4, (some .int), 1, false, 9), 9, jc_X9_slack)) := j_Mchk_ok 1095 124 (by decide +kernel) (by decide +kernel)
set_option maxRecDepth 100000 in
theorem jq_144 : j_mfact (144, ((yX9_band, cX9_band, 7, (some .int), 2, false, 9), 9, jc_X9_band)) := j_Mchk_ok 1099 124 (by decide +kernel) (by decide +kernel)
set_option maxRecDepth 100000 in
theorem jq_145 : j_mfact (145, ((yX9_swap, cX9_swap, 3, (some .int), 2, false, 9), 9, jc_X9_swap)) := j_Mchk_ok 1107 124 (by decide +kernel) (by decide +kernel)
set_option maxRecDepth 100000 in
theorem jq_146 : j_mfact (146, ((yX9_burden, cX9_burden, 6, (some .int), 1, false, 9), 9, jc_X9_burden)) := j_Mchk_ok 1115 124 (by decide +kernel) (by decide +kernel)
set_option maxRecDepth 100000 in
theorem jq_147 : j_mfact (147, ((yX9_loop, cX9_loop, 3, (some .int), 2, false, 9), 9, jc_X9_loop)) := j_Mchk_ok 1128 124 (by decide +kernel) (by decide +kernel)
set_option maxRecDepth 100000 in
theorem jq_148 : j_mfact (148, ((yX9_build, cX9_build, 5, (some .int), 0, false, 9), 9, jc_X9_build)) := j_Mchk_ok 1142 124 (by decide +kernel) (by decide +kernel)
set_option maxRecDepth 100000 in
theorem jq_149 : j_mfact (149, ((yX9_go, cX9_go, 3, (some .int), 2, false, 9), 9, jc_X9_go)) := j_Mchk_ok 1146 124 (by decide +kernel) (by decide +kernel)
set_option maxRecDepth 100000 in
theorem jq_150 : j_mfact (150, ((yX9_hold, cX9_hold, 3, (some .int), 2, false, 9), 9, jc_X9_hold)) := j_Mchk_ok 1157 124 (by decide +kernel) (by decide +kernel)
set_option maxRecDepth 100000 in
theorem jq_151 : j_mfact (151, ((yX9_shut, cX9_shut, 6, (some .int), 3, false, 9), 9, jc_X9_shut)) := j_Mchk_ok 1161 124 (by decide +kernel) (by decide +kernel)
set_option maxRecDepth 100000 in
theorem jq_152 : j_mfact (152, ((yX9_rank, cX9_rank, 3, (some .int), 1, false, 9), 9, jc_X9_rank)) := j_Mchk_ok 1165 124 (by decide +kernel) (by decide +kernel)
set_option maxRecDepth 100000 in
theorem jq_153 : j_mfact (153, ((yX9_start, cX9_start, 4, (some .int), 2, false, 9), 9, jc_X9_start)) := j_Mchk_ok 1179 124 (by decide +kernel) (by decide +kernel)
set_option maxRecDepth 100000 in
theorem jq_154 : j_mfact (154, ((yX9_stall, cX9_stall, 3, (some .int), 2, false, 9), 9, jc_X9_stall)) := j_Mchk_ok 1183 124 (by decide +kernel) (by decide +kernel)
set_option maxRecDepth 100000 in
theorem jq_155 : j_mfact (155, ((yX9_link, cX9_link, 4, (some .int), 3, false, 9), 9, jc_X9_link)) := j_Mchk_ok 1187 124 (by decide +kernel) (by decide +kernel)
set_option maxRecDepth 100000 in
theorem jq_156 : j_mfact (156, ((yX9_cut, cX9_cut, 2, (some .int), 1, false, 9), 9, jc_X9_cut)) := j_Mchk_ok 1199 124 (by decide +kernel) (by decide +kernel)
set_option maxRecDepth 100000 in
theorem jq_157 : j_mfact (157, ((yX9_undo, cX9_undo, 1, (some .int), 0, false, 9), 9, jc_X9_undo)) := j_Mchk_ok 1207 124 (by decide +kernel) (by decide +kernel)
set_option maxRecDepth 100000 in
theorem jq_158 : j_mfact (158, ((yX9_print, cX9_print, 1, (some .int), 0, false, 9), 9, jc_X9_print)) := j_Mchk_ok 1215 124 (by decide +kernel) (by decide +kernel)
set_option maxRecDepth 100000 in
theorem jq_159 : j_mfact (159, ((yX9_answer, cX9_answer, 2, (some .int), 1, false, 9), 9, jc_X9_answer)) := j_Mchk_ok 732 124 (by decide +kernel) (by decide +kernel)
set_option maxRecDepth 100000 in
theorem jq_160 : j_mfact (160, ((yX9_answerIfAny, cX9_answerIfAny, 2, (some .int), 1, false, 9), 9, jc_X9_answerIfAny)) := j_Mchk_ok 837 124 (by decide +kernel) (by decide +kernel)
set_option maxRecDepth 100000 in
theorem jq_161 : j_mfact (161, ((yX9_refuse, cX9_refuse, 2, (some .int), 1, false, 9), 9, jc_X9_refuse)) := j_Mchk_ok 610 124 (by decide +kernel) (by decide +kernel)
set_option maxRecDepth 100000 in
theorem jq_162 : j_mfact (162, ((yX9_isWithin, cX9_isWithin, 3, (some .boolean), 3, false, 9), 9, jc_X9_isWithin)) := j_Mchk_ok 680 124 (by decide +kernel) (by decide +kernel)
set_option maxRecDepth 100000 in
theorem jq_163 : j_mfact (163, ((yX9_isStation, cX9_isStation, 2, (some .boolean), 1, false, 9), 9, jc_X9_isStation)) := j_Mchk_ok 802 124 (by decide +kernel) (by decide +kernel)
set_option maxRecDepth 100000 in
theorem jq_164 : j_mfact (164, ((yX9_isTrack, cX9_isTrack, 3, (some .boolean), 2, false, 9), 9, jc_X9_isTrack)) := j_Mchk_ok 829 124 (by decide +kernel) (by decide +kernel)
set_option maxRecDepth 100000 in
theorem jq_165 : j_mfact (165, ((yX9_isTrain, cX9_isTrain, 2, (some .boolean), 1, false, 9), 9, jc_X9_isTrain)) := j_Mchk_ok 845 124 (by decide +kernel) (by decide +kernel)
set_option maxRecDepth 100000 in
theorem jq_166 : j_mfact (166, ((yX9_isSection, cX9_isSection, 2, (some .boolean), 1, false, 9), 9, jc_X9_isSection)) := j_Mchk_ok 930 124 (by decide +kernel) (by decide +kernel)
set_option maxRecDepth 100000 in
theorem jq_167 : j_mfact (167, ((yX10_init, cX10_init, 1, none, 0, true, 10), 10, jc_X10_init)) := j_Mchk_ok 1326 136 (by decide +kernel) (by decide +kernel)
set_option maxRecDepth 100000 in
theorem jq_168 : j_mfact (168, ((yX10_status, cX10_status, 1, (some .int), 0, false, 10), 10, jc_X10_status)) := j_Mchk_ok 1416 136 (by decide +kernel) (by decide +kernel)
set_option maxRecDepth 100000 in
theorem jq_169 : j_mfact (169, ((yX10_refuse, cX10_refuse, 2, (some .int), 1, false, 10), 10, jc_X10_refuse)) := j_Mchk_ok 1435 136 (by decide +kernel) (by decide +kernel)
set_option maxRecDepth 100000 in
theorem jq_170 : j_mfact (170, ((yX10_gives, cX10_gives, 2, (some .int), 1, false, 10), 10, jc_X10_gives)) := j_Mchk_ok 1520 136 (by decide +kernel) (by decide +kernel)
set_option maxRecDepth 100000 in
theorem jq_171 : j_mfact (171, ((yX10_isFrom, cX10_isFrom, 3, (some .boolean), 3, false, 10), 10, jc_X10_isFrom)) := j_Mchk_ok 1431 136 (by decide +kernel) (by decide +kernel)
set_option maxRecDepth 100000 in
theorem jq_172 : j_mfact (172, ((yX10_isStation, cX10_isStation, 2, (some .boolean), 1, false, 10), 10, jc_X10_isStation)) := j_Mchk_ok 1621 136 (by decide +kernel) (by decide +kernel)
set_option maxRecDepth 100000 in
theorem jq_173 : j_mfact (173, ((yX10_isTrain, cX10_isTrain, 2, (some .boolean), 1, false, 10), 10, jc_X10_isTrain)) := j_Mchk_ok 1641 136 (by decide +kernel) (by decide +kernel)
set_option maxRecDepth 100000 in
theorem jq_174 : j_mfact (174, ((yX10_isSection, cX10_isSection, 2, (some .boolean), 1, false, 10), 10, jc_X10_isSection)) := j_Mchk_ok 1697 136 (by decide +kernel) (by decide +kernel)
set_option maxRecDepth 100000 in
theorem jq_175 : j_mfact (175, ((yX10_isTrack, cX10_isTrack, 3, (some .boolean), 2, false, 10), 10, jc_X10_isTrack)) := j_Mchk_ok 1633 136 (by decide +kernel) (by decide +kernel)
set_option maxRecDepth 100000 in
theorem jq_176 : j_mfact (176, ((yX10_st, cX10_st, 3, (some .int), 2, false, 10), 10, jc_X10_st)) := j_Mchk_ok 1557 136 (by decide +kernel) (by decide +kernel)
set_option maxRecDepth 100000 in
theorem jq_177 : j_mfact (177, ((yX10_at, cX10_at, 2, (some .int), 2, false, 10), 10, jc_X10_at)) := j_Mchk_ok 1505 136 (by decide +kernel) (by decide +kernel)
set_option maxRecDepth 100000 in
theorem jq_178 : j_mfact (178, ((yX10_of, cX10_of, 3, (some .int), 2, false, 10), 10, jc_X10_of)) := j_Mchk_ok 1536 136 (by decide +kernel) (by decide +kernel)
set_option maxRecDepth 100000 in
theorem jq_179 : j_mfact (179, ((yX10_puts, cX10_puts, 4, none, 3, false, 10), 10, jc_X10_puts)) := j_Mchk_ok 1677 136 (by decide +kernel) (by decide +kernel)
set_option maxRecDepth 100000 in
theorem jq_180 : j_mfact (180, ((yX10_come, cX10_come, 3, none, 1, false, 10), 10, jc_X10_come)) := j_Mchk_ok 1424 136 (by decide +kernel) (by decide +kernel)
set_option maxRecDepth 100000 in
theorem jq_181 : j_mfact (181, ((yX10_feed, cX10_feed, 6, (some .int), 5, false, 10), 10, jc_X10_feed)) := j_Mchk_ok 1420 136 (by decide +kernel) (by decide +kernel)
set_option maxRecDepth 100000 in
theorem jq_182 : j_mfact (182, ((yX10_byteAt, cX10_byteAt, 2, (some .int), 1, false, 10), 10, jc_X10_byteAt)) := j_Mchk_ok 1443 136 (by decide +kernel) (by decide +kernel)
set_option maxRecDepth 100000 in
theorem jq_183 : j_mfact (183, ((yX10_isLetter, cX10_isLetter, 1, (some .boolean), 1, false, 10), 10, jc_X10_isLetter)) := j_Mchk_ok 1446 136 (by decide +kernel) (by decide +kernel)
set_option maxRecDepth 100000 in
theorem jq_184 : j_mfact (184, ((yX10_isDigit, cX10_isDigit, 1, (some .boolean), 1, false, 10), 10, jc_X10_isDigit)) := j_Mchk_ok 1450 136 (by decide +kernel) (by decide +kernel)
set_option maxRecDepth 100000 in
theorem jq_185 : j_mfact (185, ((yX10_go, cX10_go, 2, none, 0, false, 10), 10, jc_X10_go)) := j_Mchk_ok 1439 136 (by decide +kernel) (by decide +kernel)
set_option maxRecDepth 100000 in
theorem jq_186 : j_mfact (186, ((yX10_spelt, cX10_spelt, 4, (some .long), 4, false, 10), 10, jc_X10_spelt)) := j_Mchk_ok 1464 136 (by decide +kernel) (by decide +kernel)
set_option maxRecDepth 100000 in
theorem jq_187 : j_mfact (187, ((yX10_wordOf, cX10_wordOf, 1, (some .long), 1, false, 10), 10, jc_X10_wordOf)) := j_Mchk_ok 1461 136 (by decide +kernel) (by decide +kernel)
set_option maxRecDepth 100000 in
theorem jq_188 : j_mfact (188, ((yX10_isWord, cX10_isWord, 2, (some .boolean), 1, false, 10), 10, jc_X10_isWord)) := j_Mchk_ok 1458 136 (by decide +kernel) (by decide +kernel)
set_option maxRecDepth 100000 in
theorem jq_189 : j_mfact (189, ((yX10_isName, cX10_isName, 1, (some .boolean), 0, false, 10), 10, jc_X10_isName)) := j_Mchk_ok 1485 136 (by decide +kernel) (by decide +kernel)
set_option maxRecDepth 100000 in
theorem jq_190 : j_mfact (190, ((yX10_bad, cX10_bad, 2, (some .boolean), 1, false, 10), 10, jc_X10_bad)) := j_Mchk_ok 1477 136 (by decide +kernel) (by decide +kernel)
set_option maxRecDepth 100000 in
theorem jq_191 : j_mfact (191, ((yX10_readEnd, cX10_readEnd, 1, (some .boolean), 0, false, 10), 10, jc_X10_readEnd)) := j_Mchk_ok 1498 136 (by decide +kernel) (by decide +kernel)
set_option maxRecDepth 100000 in
theorem jq_192 : j_mfact (192, ((yX10_readNumber, cX10_readNumber, 4, (some .boolean), 3, false, 10), 10, jc_X10_readNumber)) := j_Mchk_ok 1493 136 (by decide +kernel) (by decide +kernel)
set_option maxRecDepth 100000 in
theorem jq_193 : j_mfact (193, ((yX10_stationHere, cX10_stationHere, 2, (some .int), 0, false, 10), 10, jc_X10_stationHere)) := j_Mchk_ok 1489 136 (by decide +kernel) (by decide +kernel)
set_option maxRecDepth 100000 in
theorem jq_194 : j_mfact (194, ((yX10_readName, cX10_readName, 4, (some .boolean), 1, false, 10), 10, jc_X10_readName)) := j_Mchk_ok 1481 136 (by decide +kernel) (by decide +kernel)
set_option maxRecDepth 100000 in
theorem jq_195 : j_mfact (195, ((yX10_readStation, cX10_readStation, 3, (some .boolean), 0, false, 10), 10, jc_X10_readStation)) := j_Mchk_ok 1473 136 (by decide +kernel) (by decide +kernel)
set_option maxRecDepth 100000 in
theorem jq_196 : j_mfact (196, ((yX10_readKnown, cX10_readKnown, 4, (some .boolean), 2, false, 10), 10, jc_X10_readKnown)) := j_Mchk_ok 1509 136 (by decide +kernel) (by decide +kernel)
set_option maxRecDepth 100000 in
theorem jq_197 : j_mfact (197, ((yX10_readTrain, cX10_readTrain, 3, (some .boolean), 0, false, 10), 10, jc_X10_readTrain)) := j_Mchk_ok 1502 136 (by decide +kernel) (by decide +kernel)
set_option maxRecDepth 100000 in
theorem jq_198 : j_mfact (198, ((yX10_readLine, cX10_readLine, 1, (some .boolean), 0, false, 10), 10, jc_X10_readLine)) := j_Mchk_ok 1454 136 (by decide +kernel) (by decide +kernel)
set_option maxRecDepth 100000 in
theorem jq_199 : j_mfact (199, ((yX10_readRank, cX10_readRank, 5, none, 0, false, 10), 10, jc_X10_readRank)) := j_Mchk_ok 1513 136 (by decide +kernel) (by decide +kernel)
