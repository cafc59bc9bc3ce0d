set_option maxRecDepth 100000 in
theorem jq_200 : j_mfact (200, ((yX10_load, cX10_load, 4, (some .int), 1, false, 10), 10, jc_X10_load)) := j_Mchk_ok 1428 136 (by decide +kernel) (by decide +kernel)
set_option maxRecDepth 100000 in
theorem jq_201 : j_mfact (201, ((yX10_copies, cX10_copies, 3, none, 2, false, 10), 10, jc_X10_copies)) := j_Mchk_ok 1516 136 (by decide +kernel) (by decide +kernel)
set_option maxRecDepth 100000 in
theorem jq_202 : j_mfact (202, ((yX10_fault, cX10_fault, 2, (some .int), 1, false, 10), 10, jc_X10_fault)) := j_Mchk_ok 1524 136 (by decide +kernel) (by decide +kernel)
set_option maxRecDepth 100000 in
theorem jq_203 : j_mfact (203, ((yX10_step, cX10_step, 2, (some .int), 1, false, 10), 10, jc_X10_step)) := j_Mchk_ok 1573 136 (by decide +kernel) (by decide +kernel)
set_option maxRecDepth 100000 in
theorem jq_204 : j_mfact (204, ((yX10_next, cX10_next, 2, (some .int), 1, false, 10), 10, jc_X10_next)) := j_Mchk_ok 1569 136 (by decide +kernel) (by decide +kernel)
set_option maxRecDepth 100000 in
theorem jq_205 : j_mfact (205, ((yX10_placeOf, cX10_placeOf, 2, (some .int), 1, false, 10), 10, jc_X10_placeOf)) := j_Mchk_ok 1565 136 (by decide +kernel) (by decide +kernel)
set_option maxRecDepth 100000 in
theorem jq_206 : j_mfact (206, ((yX10_whoAt, cX10_whoAt, 4, (some .int), 2, false, 10), 10, jc_X10_whoAt)) := j_Mchk_ok 1585 136 (by decide +kernel) (by decide +kernel)
set_option maxRecDepth 100000 in
theorem jq_207 : j_mfact (207, ((yX10_isFree, cX10_isFree, 3, (some .boolean), 2, false, 10), 10, jc_X10_isFree)) := j_Mchk_ok 1601 136 (by decide +kernel) (by decide +kernel)
set_option maxRecDepth 100000 in
theorem jq_208 : j_mfact (208, ((yX10_trackFor, cX10_trackFor, 5, (some .int), 2, false, 10), 10, jc_X10_trackFor)) := j_Mchk_ok 1597 136 (by decide +kernel) (by decide +kernel)
set_option maxRecDepth 100000 in
theorem jq_209 : j_mfact (209, ((yX10_sectionOf, cX10_sectionOf, 2, (some .int), 1, false, 10), 10, jc_X10_sectionOf)) := j_Mchk_ok 1605 136 (by decide +kernel) (by decide +kernel)
set_option maxRecDepth 100000 in
theorem jq_210 : j_mfact (210, ((yX10_whoOn, cX10_whoOn, 3, (some .int), 1, false, 10), 10, jc_X10_whoOn)) := j_Mchk_ok 1609 136 (by decide +kernel) (by decide +kernel)
set_option maxRecDepth 100000 in
theorem jq_211 : j_mfact (211, ((yX10_runOf, cX10_runOf, 3, (some .int), 2, false, 10), 10, jc_X10_runOf)) := j_Mchk_ok 1553 136 (by decide +kernel) (by decide +kernel)
set_option maxRecDepth 100000 in
theorem jq_212 : j_mfact (212, ((yX10_loneOf, cX10_loneOf, 4, (some .int), 1, false, 10), 10, jc_X10_loneOf)) := j_Mchk_ok 1548 136 (by decide +kernel) (by decide +kernel)
set_option maxRecDepth 100000 in
theorem jq_213 : j_mfact (213, ((yX10_delayOf, cX10_delayOf, 2, (some .int), 1, false, 10), 10, jc_X10_delayOf)) := j_Mchk_ok 1544 136 (by decide +kernel) (by decide +kernel)
set_option maxRecDepth 100000 in
theorem jq_214 : j_mfact (214, ((yX10_whyNot, cX10_whyNot, 2, (some .int), 1, false, 10), 10, jc_X10_whyNot)) := j_Mchk_ok 1593 136 (by decide +kernel) (by decide +kernel)
set_option maxRecDepth 100000 in
theorem jq_215 : j_mfact (215, ((yX10_event, cX10_event, 5, none, 3, false, 10), 10, jc_X10_event)) := j_Mchk_ok 1673 136 (by decide +kernel) (by decide +kernel)
set_option maxRecDepth 100000 in
theorem jq_216 : j_mfact (216, ((yX10_sets, cX10_sets, 3, none, 1, false, 10), 10, jc_X10_sets)) := j_Mchk_ok 1669 136 (by decide +kernel) (by decide +kernel)
set_option maxRecDepth 100000 in
theorem jq_217 : j_mfact (217, ((yX10_couldGo, cX10_couldGo, 5, (some .boolean), 2, false, 10), 10, jc_X10_couldGo)) := j_Mchk_ok 1577 136 (by decide +kernel) (by decide +kernel)
set_option maxRecDepth 100000 in
theorem jq_218 : j_mfact (218, ((yX10_hasRoom, cX10_hasRoom, 6, (some .boolean), 3, false, 10), 10, jc_X10_hasRoom)) := j_Mchk_ok 1581 136 (by decide +kernel) (by decide +kernel)
set_option maxRecDepth 100000 in
theorem jq_219 : j_mfact (219, ((yX10_isSafe, cX10_isSafe, 4, (some .boolean), 0, false, 10), 10, jc_X10_isSafe)) := j_Mchk_ok 1561 136 (by decide +kernel) (by decide +kernel)
set_option maxRecDepth 100000 in
theorem jq_220 : j_mfact (220, ((yX10_isStuck, cX10_isStuck, 3, (some .boolean), 0, false, 10), 10, jc_X10_isStuck)) := j_Mchk_ok 1589 136 (by decide +kernel) (by decide +kernel)
set_option maxRecDepth 100000 in
theorem jq_221 : j_mfact (221, ((yX10_isHeld, cX10_isHeld, 2, (some .boolean), 1, false, 10), 10, jc_X10_isHeld)) := j_Mchk_ok 1649 136 (by decide +kernel) (by decide +kernel)
set_option maxRecDepth 100000 in
theorem jq_222 : j_mfact (222, ((yX10_tries, cX10_tries, 3, none, 2, false, 10), 10, jc_X10_tries)) := j_Mchk_ok 1777 136 (by decide +kernel) (by decide +kernel)
set_option maxRecDepth 100000 in
theorem jq_223 : j_mfact (223, ((yX10_arrives, cX10_arrives, 4, none, 1, false, 10), 10, jc_X10_arrives)) := j_Mchk_ok 1769 136 (by decide +kernel) (by decide +kernel)
set_option maxRecDepth 100000 in
theorem jq_224 : j_mfact (224, ((yX10_link0, cX10_link0, 3, (some .int), 2, false, 10), 10, jc_X10_link0)) := j_Mchk_ok 1721 136 (by decide +kernel) (by decide +kernel)
set_option maxRecDepth 100000 in
theorem jq_225 : j_mfact (225, ((yX10_keepsIt, cX10_keepsIt, 4, (some .boolean), 1, false, 10), 10, jc_X10_keepsIt)) := j_Mchk_ok 1717 136 (by decide +kernel) (by decide +kernel)
set_option maxRecDepth 100000 in
theorem jq_226 : j_mfact (226, ((yX10_isKept, cX10_isKept, 3, (some .boolean), 1, false, 10), 10, jc_X10_isKept)) := j_Mchk_ok 1773 136 (by decide +kernel) (by decide +kernel)
set_option maxRecDepth 100000 in
theorem jq_227 : j_mfact (227, ((yX10_minute, cX10_minute, 5, none, 1, false, 10), 10, jc_X10_minute)) := j_Mchk_ok 1765 136 (by decide +kernel) (by decide +kernel)
set_option maxRecDepth 100000 in
theorem jq_228 : j_mfact (228, ((yX10_meets, cX10_meets, 4, none, 2, false, 10), 10, jc_X10_meets)) := j_Mchk_ok 1781 136 (by decide +kernel) (by decide +kernel)
set_option maxRecDepth 100000 in
theorem jq_229 : j_mfact (229, ((yX10_howMany, cX10_howMany, 4, (some .int), 1, false, 10), 10, jc_X10_howMany)) := j_Mchk_ok 1532 136 (by decide +kernel) (by decide +kernel)
set_option maxRecDepth 100000 in
theorem jq_230 : j_mfact (230, ((yX10_price, cX10_price, 3, (some .int), 0, false, 10), 10, jc_X10_price)) := j_Mchk_ok 1540 136 (by decide +kernel) (by decide +kernel)
set_option maxRecDepth 100000 in
theorem jq_231 : j_mfact (231, ((yX10_toTheEnd, cX10_toTheEnd, 3, none, 1, false, 10), 10, jc_X10_toTheEnd)) := j_Mchk_ok 1793 136 (by decide +kernel) (by decide +kernel)
set_option maxRecDepth 100000 in
theorem jq_232 : j_mfact (232, ((yX10_priceAtEnd, cX10_priceAtEnd, 1, (some .int), 0, false, 10), 10, jc_X10_priceAtEnd)) := j_Mchk_ok 1810 136 (by decide +kernel) (by decide +kernel)
set_option maxRecDepth 100000 in
theorem jq_233 : j_mfact (233, ((yX10_greatestDelay, cX10_greatestDelay, 4, (some .int), 0, false, 10), 10, jc_X10_greatestDelay)) := j_Mchk_ok 1613 136 (by decide +kernel) (by decide +kernel)
set_option maxRecDepth 100000 in
theorem jq_234 : j_mfact (234, ((yX10_many, cX10_many, 2, (some .int), 1, false, 10), 10, jc_X10_many)) := j_Mchk_ok 1528 136 (by decide +kernel) (by decide +kernel)
set_option maxRecDepth 100000 in
theorem jq_235 : j_mfact (235, ((yX10_freeOnes, cX10_freeOnes, 4, (some .int), 1, false, 10), 10, jc_X10_freeOnes)) := j_Mchk_ok 1625 136 (by decide +kernel) (by decide +kernel)
set_option maxRecDepth 100000 in
theorem jq_236 : j_mfact (236, ((yX10_station, cX10_station, 5, (some .int), 2, false, 10), 10, jc_X10_station)) := j_Mchk_ok 1617 136 (by decide +kernel) (by decide +kernel)
set_option maxRecDepth 100000 in
theorem jq_237 : j_mfact (237, ((yX10_track, cX10_track, 5, (some .int), 3, false, 10), 10, jc_X10_track)) := j_Mchk_ok 1629 136 (by decide +kernel) (by decide +kernel)
set_option maxRecDepth 100000 in
theorem jq_238 : j_mfact (238, ((yX10_rankOf, cX10_rankOf, 3, (some .int), 1, false, 10), 10, jc_X10_rankOf)) := j_Mchk_ok 1653 136 (by decide +kernel) (by decide +kernel)
set_option maxRecDepth 100000 in
theorem jq_239 : j_mfact (239, ((yX10_orNone, cX10_orNone, 3, (some .int), 2, false, 10), 10, jc_X10_orNone)) := j_Mchk_ok 1645 136 (by decide +kernel) (by decide +kernel)
set_option maxRecDepth 100000 in
theorem jq_240 : j_mfact (240, ((yX10_train, cX10_train, 4, (some .int), 2, false, 10), 10, jc_X10_train)) := j_Mchk_ok 1637 136 (by decide +kernel) (by decide +kernel)
set_option maxRecDepth 100000 in
theorem jq_241 : j_mfact (241, ((yX10_doesFit, cX10_doesFit, 4, (some .boolean), 2, false, 10), 10, jc_X10_doesFit)) := j_Mchk_ok 1661 136 (by decide +kernel) (by decide +kernel)
set_option maxRecDepth 100000 in
theorem jq_242 : j_mfact (242, ((yX10_fits, cX10_fits, 4, (some .int), 1, false, 10), 10, jc_X10_fits)) := j_Mchk_ok 1657 136 (by decide +kernel) (by decide +kernel)
set_option maxRecDepth 100000 in
theorem jq_243 : j_mfact (243, ((yX10_why, cX10_why, 4, (some .int), 1, false, 10), 10, jc_X10_why)) := j_Mchk_ok 1665 136 (by decide +kernel) (by decide +kernel)
set_option maxRecDepth 100000 in
theorem jq_244 : j_mfact (244, ((yX10_waitsFor, cX10_waitsFor, 5, (some .int), 1, false, 10), 10, jc_X10_waitsFor)) := j_Mchk_ok 1685 136 (by decide +kernel) (by decide +kernel)
set_option maxRecDepth 100000 in
theorem jq_245 : j_mfact (245, ((yX10_blocks, cX10_blocks, 2, (some .int), 1, false, 10), 10, jc_X10_blocks)) := j_Mchk_ok 1681 136 (by decide +kernel) (by decide +kernel)
set_option maxRecDepth 100000 in
theorem jq_246 : j_mfact (246, ((yX10_ring, cX10_ring, 6, (some .int), 0, false, 10), 10, jc_X10_ring)) := j_Mchk_ok 1689 136 (by decide +kernel) (by decide +kernel)
set_option maxRecDepth 100000 in
theorem jq_247 : j_mfact (247, ((yX10_section, cX10_section, 3, (some .int), 1, false, 10), 10, jc_X10_section)) := j_Mchk_ok 1693 136 (by decide +kernel) (by decide +kernel)
set_option maxRecDepth 100000 in
theorem jq_248 : j_mfact (248, ((yX10_through, cX10_through, 2, (some .int), 1, false, 10), 10, jc_X10_through)) := j_Mchk_ok 1701 136 (by decide +kernel) (by decide +kernel)
set_option maxRecDepth 100000 in
theorem jq_249 : j_mfact (249, ((yX10_risks, cX10_risks, 4, (some .int), 0, false, 10), 10, jc_X10_risks)) := j_Mchk_ok 1705 136 (by decide +kernel) (by decide +kernel)
set_option maxRecDepth 100000 in
theorem jq_250 : j_mfact (250, ((yX10_weak, cX10_weak, 4, (some .int), 1, false, 10), 10, jc_X10_weak)) := j_Mchk_ok 1709 136 (by decide +kernel) (by decide +kernel)
set_option maxRecDepth 100000 in
theorem jq_251 : j_mfact (251, ((yX10_links, cX10_links, 3, (some .int), 2, false, 10), 10, jc_X10_links)) := j_Mchk_ok 1713 136 (by decide +kernel) (by decide +kernel)
set_option maxRecDepth 100000 in
theorem jq_252 : j_mfact (252, ((yX10_time, cX10_time, 5, (some .int), 3, false, 10), 10, jc_X10_time)) := j_Mchk_ok 1725 136 (by decide +kernel) (by decide +kernel)
set_option maxRecDepth 100000 in
theorem jq_253 : j_mfact (253, ((yX10_together, cX10_together, 5, (some .int), 3, false, 10), 10, jc_X10_together)) := j_Mchk_ok 1729 136 (by decide +kernel) (by decide +kernel)
set_option maxRecDepth 100000 in
theorem jq_254 : j_mfact (254, ((yX10_passes, cX10_passes, 5, (some .int), 2, false, 10), 10, jc_X10_passes)) := j_Mchk_ok 1733 136 (by decide +kernel) (by decide +kernel)
set_option maxRecDepth 100000 in
theorem jq_255 : j_mfact (255, ((yX10_stood, cX10_stood, 2, (some .int), 1, false, 10), 10, jc_X10_stood)) := j_Mchk_ok 1737 136 (by decide +kernel) (by decide +kernel)
set_option maxRecDepth 100000 in
theorem jq_256 : j_mfact (256, ((yX10_late, cX10_late, 6, (some .int), 2, false, 10), 10, jc_X10_late)) := j_Mchk_ok 1741 136 (by decide +kernel) (by decide +kernel)
set_option maxRecDepth 100000 in
theorem jq_257 : j_mfact (257, ((yX10_event_, cX10_event_, 3, (some .int), 2, false, 10), 10, jc_X10_event_)) := j_Mchk_ok 1745 136 (by decide +kernel) (by decide +kernel)
set_option maxRecDepth 100000 in
theorem jq_258 : j_mfact (258, ((yX10_use, cX10_use, 2, (some .int), 1, false, 10), 10, jc_X10_use)) := j_Mchk_ok 1749 136 (by decide +kernel) (by decide +kernel)
set_option maxRecDepth 100000 in
theorem jq_259 : j_mfact (259, ((yX10_gone, cX10_gone, 3, (some .int), 2, false, 10), 10, jc_X10_gone)) := j_Mchk_ok 1753 136 (by decide +kernel) (by decide +kernel)
set_option maxRecDepth 100000 in
theorem jq_260 : j_mfact (260, ((yX10_waits, cX10_waits, 2, (some .int), 1, false, 10), 10, jc_X10_waits)) := j_Mchk_ok 1757 136 (by decide +kernel) (by decide +kernel)
set_option maxRecDepth 100000 in
theorem jq_261 : j_mfact (261, ((yX10_back, cX10_back, 2, (some .int), 1, false, 10), 10, jc_X10_back)) := j_Mchk_ok 1785 136 (by decide +kernel) (by decide +kernel)
set_option maxRecDepth 100000 in
theorem jq_262 : j_mfact (262, ((yX10_ahead, cX10_ahead, 5, (some .int), 3, false, 10), 10, jc_X10_ahead)) := j_Mchk_ok 1761 136 (by decide +kernel) (by decide +kernel)
set_option maxRecDepth 100000 in
theorem jq_263 : j_mfact (263, ((yX10_allUse, cX10_allUse, 3, (some .int), 0, false, 10), 10, jc_X10_allUse)) := j_Mchk_ok 1797 136 (by decide +kernel) (by decide +kernel)
set_option maxRecDepth 100000 in
theorem jq_264 : j_mfact (264, ((yX10_ends, cX10_ends, 3, (some .int), 2, false, 10), 10, jc_X10_ends)) := j_Mchk_ok 1789 136 (by decide +kernel) (by decide +kernel)
set_option maxRecDepth 100000 in
theorem jq_265 : j_mfact (265, ((yX10_when, cX10_when, 3, (some .int), 1, false, 10), 10, jc_X10_when)) := j_Mchk_ok 1801 136 (by decide +kernel) (by decide +kernel)
set_option maxRecDepth 100000 in
theorem jq_266 : j_mfact (266, ((yX10_nextOrder, cX10_nextOrder, 6, (some .boolean), 1, false, 10), 10, jc_X10_nextOrder)) := j_Mchk_ok 1814 136 (by decide +kernel) (by decide +kernel)
set_option maxRecDepth 100000 in
theorem jq_267 : j_mfact (267, ((yX10_trades, cX10_trades, 4, none, 2, false, 10), 10, jc_X10_trades)) := j_Mchk_ok 1818 136 (by decide +kernel) (by decide +kernel)
set_option maxRecDepth 100000 in
theorem jq_268 : j_mfact (268, ((yX10_plan, cX10_plan, 7, (some .int), 1, false, 10), 10, jc_X10_plan)) := j_Mchk_ok 1805 136 (by decide +kernel) (by decide +kernel)
set_option maxRecDepth 100000 in
theorem jq_269 : j_mfact (269, ((yX10_priceNow, cX10_priceNow, 2, (some .int), 0, false, 10), 10, jc_X10_priceNow)) := j_Mchk_ok 1826 136 (by decide +kernel) (by decide +kernel)
set_option maxRecDepth 100000 in
theorem jq_270 : j_mfact (270, ((yX10_priceHeld, cX10_priceHeld, 4, (some .int), 2, false, 10), 10, jc_X10_priceHeld)) := j_Mchk_ok 1830 136 (by decide +kernel) (by decide +kernel)
set_option maxRecDepth 100000 in
theorem jq_271 : j_mfact (271, ((yX10_cost, cX10_cost, 4, (some .int), 2, false, 10), 10, jc_X10_cost)) := j_Mchk_ok 1822 136 (by decide +kernel) (by decide +kernel)
set_option maxRecDepth 100000 in
theorem jq_272 : j_mfact (272, ((yX10_slack, cX10_slack, 4, (some .int), 1, false, 10), 10, jc_X10_slack)) := j_Mchk_ok 1834 136 (by decide +kernel) (by decide +kernel)
set_option maxRecDepth 100000 in
theorem jq_273 : j_mfact (273, ((yX10_swap, cX10_swap, 7, (some .int), 2, false, 10), 10, jc_X10_swap)) := j_Mchk_ok 1838 136 (by decide +kernel) (by decide +kernel)
set_option maxRecDepth 100000 in
theorem jq_274 : j_mfact (274, ((yX10_dropsLink, cX10_dropsLink, 3, none, 1, false, 10), 10, jc_X10_dropsLink)) := j_Mchk_ok 1850 136 (by decide +kernel) (by decide +kernel)
set_option maxRecDepth 100000 in
theorem jq_275 : j_mfact (275, ((yX10_drops, cX10_drops, 5, none, 1, false, 10), 10, jc_X10_drops)) := j_Mchk_ok 1846 136 (by decide +kernel) (by decide +kernel)
set_option maxRecDepth 100000 in
theorem jq_276 : j_mfact (276, ((yX10_burden, cX10_burden, 7, (some .int), 1, false, 10), 10, jc_X10_burden)) := j_Mchk_ok 1842 136 (by decide +kernel) (by decide +kernel)
set_option maxRecDepth 100000 in
theorem jq_277 : j_mfact (277, ((yX10_band, cX10_band, 7, (some .int), 2, false, 10), 10, jc_X10_band)) := j_Mchk_ok 1854 136 (by decide +kernel) (by decide +kernel)
set_option maxRecDepth 100000 in
theorem jq_278 : j_mfact (278, ((yX10_priceWith, cX10_priceWith, 4, (some .int), 2, false, 10), 10, jc_X10_priceWith)) := j_Mchk_ok 1862 136 (by decide +kernel) (by decide +kernel)
set_option maxRecDepth 100000 in
theorem jq_279 : j_mfact (279, ((yX10_loop, cX10_loop, 4, (some .int), 2, false, 10), 10, jc_X10_loop)) := j_Mchk_ok 1858 136 (by decide +kernel) (by decide +kernel)
set_option maxRecDepth 100000 in
theorem jq_280 : j_mfact (280, ((yX10_build, cX10_build, 5, (some .int), 0, false, 10), 10, jc_X10_build)) := j_Mchk_ok 1866 136 (by decide +kernel) (by decide +kernel)
set_option maxRecDepth 100000 in
theorem jq_281 : j_mfact (281, ((yX10_keeps, cX10_keeps, 2, none, 0, false, 10), 10, jc_X10_keeps)) := j_Mchk_ok 1878 136 (by decide +kernel) (by decide +kernel)
set_option maxRecDepth 100000 in
theorem jq_282 : j_mfact (282, ((yX10_undo, cX10_undo, 2, (some .int), 0, false, 10), 10, jc_X10_undo)) := j_Mchk_ok 1870 136 (by decide +kernel) (by decide +kernel)
set_option maxRecDepth 100000 in
theorem jq_283 : j_mfact (283, ((yX10_go_, cX10_go_, 4, (some .int), 2, false, 10), 10, jc_X10_go_)) := j_Mchk_ok 1874 136 (by decide +kernel) (by decide +kernel)
set_option maxRecDepth 100000 in
theorem jq_284 : j_mfact (284, ((yX10_hold, cX10_hold, 3, (some .int), 2, false, 10), 10, jc_X10_hold)) := j_Mchk_ok 1882 136 (by decide +kernel) (by decide +kernel)
set_option maxRecDepth 100000 in
theorem jq_285 : j_mfact (285, ((yX10_shut, cX10_shut, 7, (some .int), 3, false, 10), 10, jc_X10_shut)) := j_Mchk_ok 1886 136 (by decide +kernel) (by decide +kernel)
set_option maxRecDepth 100000 in
theorem jq_286 : j_mfact (286, ((yX10_rank, cX10_rank, 7, (some .int), 1, false, 10), 10, jc_X10_rank)) := j_Mchk_ok 1890 136 (by decide +kernel) (by decide +kernel)
set_option maxRecDepth 100000 in
theorem jq_287 : j_mfact (287, ((yX10_start, cX10_start, 4, (some .int), 2, false, 10), 10, jc_X10_start)) := j_Mchk_ok 1894 136 (by decide +kernel) (by decide +kernel)
set_option maxRecDepth 100000 in
theorem jq_288 : j_mfact (288, ((yX10_stall, cX10_stall, 3, (some .int), 2, false, 10), 10, jc_X10_stall)) := j_Mchk_ok 1898 136 (by decide +kernel) (by decide +kernel)
set_option maxRecDepth 100000 in
theorem jq_289 : j_mfact (289, ((yX10_link, cX10_link, 6, (some .int), 3, false, 10), 10, jc_X10_link)) := j_Mchk_ok 1902 136 (by decide +kernel) (by decide +kernel)
set_option maxRecDepth 100000 in
theorem jq_290 : j_mfact (290, ((yX10_cut, cX10_cut, 2, (some .int), 1, false, 10), 10, jc_X10_cut)) := j_Mchk_ok 1906 136 (by decide +kernel) (by decide +kernel)
set_option maxRecDepth 100000 in
theorem jq_291 : j_mfact (291, ((yX10_prints, cX10_prints, 2, none, 1, false, 10), 10, jc_X10_prints)) := j_Mchk_ok 1919 136 (by decide +kernel) (by decide +kernel)
set_option maxRecDepth 100000 in
theorem jq_292 : j_mfact (292, ((yX10_printsWord, cX10_printsWord, 4, none, 1, false, 10), 10, jc_X10_printsWord)) := j_Mchk_ok 1914 136 (by decide +kernel) (by decide +kernel)
set_option maxRecDepth 100000 in
theorem jq_293 : j_mfact (293, ((yX10_printsNamed, cX10_printsNamed, 2, none, 1, false, 10), 10, jc_X10_printsNamed)) := j_Mchk_ok 1923 136 (by decide +kernel) (by decide +kernel)
set_option maxRecDepth 100000 in
theorem jq_294 : j_mfact (294, ((yX10_printsNumber, cX10_printsNumber, 2, none, 1, false, 10), 10, jc_X10_printsNumber)) := j_Mchk_ok 1927 136 (by decide +kernel) (by decide +kernel)
set_option maxRecDepth 100000 in
theorem jq_295 : j_mfact (295, ((yX10_printsTrain, cX10_printsTrain, 3, none, 1, false, 10), 10, jc_X10_printsTrain)) := j_Mchk_ok 1931 136 (by decide +kernel) (by decide +kernel)
set_option maxRecDepth 100000 in
theorem jq_296 : j_mfact (296, ((yX10_print, cX10_print, 3, (some .int), 0, false, 10), 10, jc_X10_print)) := j_Mchk_ok 1910 136 (by decide +kernel) (by decide +kernel)
set_option maxRecDepth 100000 in
theorem jq_297 : j_mfact (297, ((yX10_out, cX10_out, 2, (some .int), 1, false, 10), 10, jc_X10_out)) := j_Mchk_ok 1935 136 (by decide +kernel) (by decide +kernel)
set_option maxRecDepth 100000 in
theorem jq_298 : j_mfact (298, ((yJ6_bitCount_0f7a4, cJ6_bitCount_0f7a4, 1, (some .int), 1, false, 99), 11, jc_J6_bitCount_0f7a4)) := j_Mchk_ok 810 138 (by decide +kernel) (by decide +kernel)
set_option maxRecDepth 100000 in
theorem jq_299 : j_mfact (299, ((yJ7_fill_53178, cJ7_fill_53178, 4, none, 2, false, 99), 12, jc_J7_fill_53178)) := j_Mchk_ok 548 135 (by decide +kernel) (by decide +kernel)
theorem jm_ok_0 : ∀ q ∈ jm_0, j_mfact q := by
  unfold jm_0
  exact List.forall_mem_cons.mpr ⟨jq_0, List.forall_mem_cons.mpr ⟨jq_1, List.forall_mem_cons.mpr ⟨jq_2, List.forall_mem_cons.mpr ⟨jq_3, List.forall_mem_cons.mpr ⟨jq_4, List.forall_mem_cons.mpr ⟨jq_5, List.forall_mem_cons.mpr ⟨jq_6, List.forall_mem_cons.mpr ⟨jq_7, List.forall_mem_cons.mpr ⟨jq_8, List.forall_mem_cons.mpr ⟨jq_9, List.forall_mem_cons.mpr ⟨jq_10, List.forall_mem_cons.mpr ⟨jq_11, List.forall_mem_cons.mpr ⟨jq_12, List.forall_mem_cons.mpr ⟨jq_13, List.forall_mem_cons.mpr ⟨jq_14, List.forall_mem_cons.mpr ⟨jq_15, fun _ h => absurd h List.not_mem_nil⟩⟩⟩⟩⟩⟩⟩⟩⟩⟩⟩⟩⟩⟩⟩⟩
theorem jm_ok_1 : ∀ q ∈ jm_1, j_mfact q := by
  unfold jm_1
  exact List.forall_mem_cons.mpr ⟨jq_16, List.forall_mem_cons.mpr ⟨jq_17, List.forall_mem_cons.mpr ⟨jq_18, List.forall_mem_cons.mpr ⟨jq_19, List.forall_mem_cons.mpr ⟨jq_20, List.forall_mem_cons.mpr ⟨jq_21, List.forall_mem_cons.mpr ⟨jq_22, List.forall_mem_cons.mpr ⟨jq_23, List.forall_mem_cons.mpr ⟨jq_24, List.forall_mem_cons.mpr ⟨jq_25, List.forall_mem_cons.mpr ⟨jq_26, List.forall_mem_cons.mpr ⟨jq_27, List.forall_mem_cons.mpr ⟨jq_28, List.forall_mem_cons.mpr ⟨jq_29, List.forall_mem_cons.mpr ⟨jq_30, List.forall_mem_cons.mpr ⟨jq_31, fun _ h => absurd h List.not_mem_nil⟩⟩⟩⟩⟩⟩⟩⟩⟩⟩⟩⟩⟩⟩⟩⟩
theorem jm_ok_2 : ∀ q ∈ jm_2, j_mfact q := by
  unfold jm_2
  exact List.forall_mem_cons.mpr ⟨jq_32, List.forall_mem_cons.mpr ⟨jq_33, List.forall_mem_cons.mpr ⟨jq_34, List.forall_mem_cons.mpr ⟨jq_35, List.forall_mem_cons.mpr ⟨jq_36, List.forall_mem_cons.mpr ⟨jq_37, List.forall_mem_cons.mpr ⟨jq_38, List.forall_mem_cons.mpr ⟨jq_39, List.forall_mem_cons.mpr ⟨jq_40, List.forall_mem_cons.mpr ⟨jq_41, List.forall_mem_cons.mpr ⟨jq_42, List.forall_mem_cons.mpr ⟨jq_43, List.forall_mem_cons.mpr ⟨jq_44, List.forall_mem_cons.mpr ⟨jq_45, List.forall_mem_cons.mpr ⟨jq_46, List.forall_mem_cons.mpr ⟨jq_47, fun _ h => absurd h List.not_mem_nil⟩⟩⟩⟩⟩⟩⟩⟩⟩⟩⟩⟩⟩⟩⟩⟩
theorem jm_ok_3 : ∀ q ∈ jm_3, j_mfact q := by
  unfold jm_3
  exact List.forall_mem_cons.mpr ⟨jq_48, List.forall_mem_cons.mpr ⟨jq_49, List.forall_mem_cons.mpr ⟨jq_50, List.forall_mem_cons.mpr ⟨jq_51, List.forall_mem_cons.mpr ⟨jq_52, List.forall_mem_cons.mpr ⟨jq_53, List.forall_mem_cons.mpr ⟨jq_54, List.forall_mem_cons.mpr ⟨jq_55, List.forall_mem_cons.mpr ⟨jq_56, List.forall_mem_cons.mpr ⟨jq_57, List.forall_mem_cons.mpr ⟨jq_58, List.forall_mem_cons.mpr ⟨jq_59, List.forall_mem_cons.mpr ⟨jq_60, List.forall_mem_cons.mpr ⟨jq_61, List.forall_mem_cons.mpr ⟨jq_62, List.forall_mem_cons.mpr ⟨jq_63, fun _ h => absurd h List.not_mem_nil⟩⟩⟩⟩⟩⟩⟩⟩⟩⟩⟩⟩⟩⟩⟩⟩
theorem jm_ok_4 : ∀ q ∈ jm_4, j_mfact q := by
  unfold jm_4
  exact List.forall_mem_cons.mpr ⟨jq_64, List.forall_mem_cons.mpr ⟨jq_65, List.forall_mem_cons.mpr ⟨jq_66, List.forall_mem_cons.mpr ⟨jq_67, List.forall_mem_cons.mpr ⟨jq_68, List.forall_mem_cons.mpr ⟨jq_69, List.forall_mem_cons.mpr ⟨jq_70, List.forall_mem_cons.mpr ⟨jq_71, List.forall_mem_cons.mpr ⟨jq_72, List.forall_mem_cons.mpr ⟨jq_73, List.forall_mem_cons.mpr ⟨jq_74, List.forall_mem_cons.mpr ⟨jq_75, List.forall_mem_cons.mpr ⟨jq_76, List.forall_mem_cons.mpr ⟨jq_77, List.forall_mem_cons.mpr ⟨jq_78, List.forall_mem_cons.mpr ⟨jq_79, fun _ h => absurd h List.not_mem_nil⟩⟩⟩⟩⟩⟩⟩⟩⟩⟩⟩⟩⟩⟩⟩⟩
theorem jm_ok_5 : ∀ q ∈ jm_5, j_mfact q := by
  unfold jm_5
  exact List.forall_mem_cons.mpr ⟨jq_80, List.forall_mem_cons.mpr ⟨jq_81, List.forall_mem_cons.mpr ⟨jq_82, List.forall_mem_cons.mpr ⟨jq_83, List.forall_mem_cons.mpr ⟨jq_84, List.forall_mem_cons.mpr ⟨jq_85, List.forall_mem_cons.mpr ⟨jq_86, List.forall_mem_cons.mpr ⟨jq_87, List.forall_mem_cons.mpr ⟨jq_88, List.forall_mem_cons.mpr ⟨jq_89, List.forall_mem_cons.mpr ⟨jq_90, List.forall_mem_cons.mpr ⟨jq_91, List.forall_mem_cons.mpr ⟨jq_92, List.forall_mem_cons.mpr ⟨jq_93, List.forall_mem_cons.mpr ⟨jq_94, List.forall_mem_cons.mpr ⟨jq_95, fun _ h => absurd h List.not_mem_nil⟩⟩⟩⟩⟩⟩⟩⟩⟩⟩⟩⟩⟩⟩⟩⟩
theorem jm_ok_6 : ∀ q ∈ jm_6, j_mfact q := by
  unfold jm_6
  exact List.forall_mem_cons.mpr ⟨jq_96, List.forall_mem_cons.mpr ⟨jq_97, List.forall_mem_cons.mpr ⟨jq_98, List.forall_mem_cons.mpr ⟨jq_99, List.forall_mem_cons.mpr ⟨jq_100, List.forall_mem_cons.mpr ⟨jq_101, List.forall_mem_cons.mpr ⟨jq_102, List.forall_mem_cons.mpr ⟨jq_103, List.forall_mem_cons.mpr ⟨jq_104, List.forall_mem_cons.mpr ⟨jq_105, List.forall_mem_cons.mpr ⟨jq_106, List.forall_mem_cons.mpr ⟨jq_107, List.forall_mem_cons.mpr ⟨jq_108, List.forall_mem_cons.mpr ⟨jq_109, List.forall_mem_cons.mpr ⟨jq_110, List.forall_mem_cons.mpr ⟨jq_111, fun _ h => absurd h List.not_mem_nil⟩⟩⟩⟩⟩⟩⟩⟩⟩⟩⟩⟩⟩⟩⟩⟩
theorem jm_ok_7 : ∀ q ∈ jm_7, j_mfact q := by
  unfold jm_7
  exact List.forall_mem_cons.mpr ⟨jq_112, List.forall_mem_cons.mpr ⟨jq_113, List.forall_mem_cons.mpr ⟨jq_114, List.forall_mem_cons.mpr ⟨jq_115, List.forall_mem_cons.mpr ⟨jq_116, List.forall_mem_cons.mpr ⟨jq_117, List.forall_mem_cons.mpr ⟨jq_118, List.forall_mem_cons.mpr ⟨jq_119, List.forall_mem_cons.mpr ⟨jq_120, List.forall_mem_cons.mpr ⟨jq_121, List.forall_mem_cons.mpr ⟨jq_122, List.forall_mem_cons.mpr ⟨jq_123, List.forall_mem_cons.mpr ⟨jq_124, List.forall_mem_cons.mpr ⟨jq_125, List.forall_mem_cons.mpr ⟨jq_126, List.forall_mem_cons.mpr ⟨jq_127, fun _ h => absurd h List.not_mem_nil⟩⟩⟩⟩⟩⟩⟩⟩⟩⟩⟩⟩⟩⟩⟩⟩
theorem jm_ok_8 : ∀ q ∈ jm_8, j_mfact q := by
  unfold jm_8
  exact List.forall_mem_cons.mpr ⟨jq_128, List.forall_mem_cons.mpr ⟨jq_129, List.forall_mem_cons.mpr ⟨jq_130, List.forall_mem_cons.mpr ⟨jq_131, List.forall_mem_cons.mpr ⟨jq_132, List.forall_mem_cons.mpr ⟨jq_133, List.forall_mem_cons.mpr ⟨jq_134, List.forall_mem_cons.mpr ⟨jq_135, List.forall_mem_cons.mpr ⟨jq_136, List.forall_mem_cons.mpr ⟨jq_137, List.forall_mem_cons.mpr ⟨jq_138, List.forall_mem_cons.mpr ⟨jq_139, List.forall_mem_cons.mpr ⟨jq_140, List.forall_mem_cons.mpr ⟨jq_141, List.forall_mem_cons.mpr ⟨jq_142, List.forall_mem_cons.mpr ⟨jq_143, fun _ h => absurd h List.not_mem_nil⟩⟩⟩⟩⟩⟩⟩⟩⟩⟩⟩⟩⟩⟩⟩⟩
theorem jm_ok_9 : ∀ q ∈ jm_9, j_mfact q := by
  unfold jm_9
  exact List.forall_mem_cons.mpr ⟨jq_144, List.forall_mem_cons.mpr ⟨jq_145, List.forall_mem_cons.mpr ⟨jq_146, List.forall_mem_cons.mpr ⟨jq_147, List.forall_mem_cons.mpr ⟨jq_148, List.forall_mem_cons.mpr ⟨jq_149, List.forall_mem_cons.mpr ⟨jq_150, List.forall_mem_cons.mpr ⟨jq_151, List.forall_mem_cons.mpr ⟨jq_152, List.forall_mem_cons.mpr ⟨jq_153, List.forall_mem_cons.mpr ⟨jq_154, List.forall_mem_cons.mpr ⟨jq_155, List.forall_mem_cons.mpr ⟨jq_156, List.forall_mem_cons.mpr ⟨jq_157, List.forall_mem_cons.mpr ⟨jq_158, List.forall_mem_cons.mpr ⟨jq_159, fun _ h => absurd h List.not_mem_nil⟩⟩⟩⟩⟩⟩⟩⟩⟩⟩⟩⟩⟩⟩⟩⟩
theorem jm_ok_10 : ∀ q ∈ jm_10, j_mfact q := by
  unfold jm_10
  exact List.forall_mem_cons.mpr ⟨jq_160, List.forall_mem_cons.mpr ⟨jq_161, List.forall_mem_cons.mpr ⟨jq_162, List.forall_mem_cons.mpr ⟨jq_163, List.forall_mem_cons.mpr ⟨jq_164, List.forall_mem_cons.mpr ⟨jq_165, List.forall_mem_cons.mpr ⟨jq_166, List.forall_mem_cons.mpr ⟨jq_167, List.forall_mem_cons.mpr ⟨jq_168, List.forall_mem_cons.mpr ⟨jq_169, List.forall_mem_cons.mpr ⟨jq_170, List.forall_mem_cons.mpr ⟨jq_171, List.forall_mem_cons.mpr ⟨jq_172, List.forall_mem_cons.mpr ⟨jq_173, List.forall_mem_cons.mpr ⟨jq_174, List.forall_mem_cons.mpr ⟨jq_175, fun _ h => absurd h List.not_mem_nil⟩⟩⟩⟩⟩⟩⟩⟩⟩⟩⟩⟩⟩⟩⟩⟩
theorem jm_ok_11 : ∀ q ∈ jm_11, j_mfact q := by
  unfold jm_11
  exact List.forall_mem_cons.mpr ⟨jq_176, List.forall_mem_cons.mpr ⟨jq_177, List.forall_mem_cons.mpr ⟨jq_178, List.forall_mem_cons.mpr ⟨jq_179, List.forall_mem_cons.mpr ⟨jq_180, List.forall_mem_cons.mpr ⟨jq_181, List.forall_mem_cons.mpr ⟨jq_182, List.forall_mem_cons.mpr ⟨jq_183, List.forall_mem_cons.mpr ⟨jq_184, List.forall_mem_cons.mpr ⟨jq_185, List.forall_mem_cons.mpr ⟨jq_186, List.forall_mem_cons.mpr ⟨jq_187, List.forall_mem_cons.mpr ⟨jq_188, List.forall_mem_cons.mpr ⟨jq_189, List.forall_mem_cons.mpr ⟨jq_190, List.forall_mem_cons.mpr ⟨jq_191, fun _ h => absurd h List.not_mem_nil⟩⟩⟩⟩⟩⟩⟩⟩⟩⟩⟩⟩⟩⟩⟩⟩
theorem jm_ok_12 : ∀ q ∈ jm_12, j_mfact q := by
  unfold jm_12
  exact List.forall_mem_cons.mpr ⟨jq_192, List.forall_mem_cons.mpr ⟨jq_193, List.forall_mem_cons.mpr ⟨jq_194, List.forall_mem_cons.mpr ⟨jq_195, List.forall_mem_cons.mpr ⟨jq_196, List.forall_mem_cons.mpr ⟨jq_197, List.forall_mem_cons.mpr ⟨jq_198, List.forall_mem_cons.mpr ⟨jq_199, List.forall_mem_cons.mpr ⟨jq_200, List.forall_mem_cons.mpr ⟨jq_201, List.forall_mem_cons.mpr ⟨jq_202, List.forall_mem_cons.mpr ⟨jq_203, List.forall_mem_cons.mpr ⟨jq_204, List.forall_mem_cons.mpr ⟨jq_205, List.forall_mem_cons.mpr ⟨jq_206, List.forall_mem_cons.mpr ⟨jq_207, fun _ h => absurd h List.not_mem_nil⟩⟩⟩⟩⟩⟩⟩⟩⟩⟩⟩⟩⟩⟩⟩⟩
theorem jm_ok_13 : ∀ q ∈ jm_13, j_mfact q := by
  unfold jm_13
  exact List.forall_mem_cons.mpr ⟨jq_208, List.forall_mem_cons.mpr ⟨jq_209, List.forall_mem_cons.mpr ⟨jq_210, List.forall_mem_cons.mpr ⟨jq_211, List.forall_mem_cons.mpr ⟨jq_212, List.forall_mem_cons.mpr ⟨jq_213, List.forall_mem_cons.mpr ⟨jq_214, List.forall_mem_cons.mpr ⟨jq_215, List.forall_mem_cons.mpr ⟨jq_216, List.forall_mem_cons.mpr ⟨jq_217, List.forall_mem_cons.mpr ⟨jq_218, List.forall_mem_cons.mpr ⟨jq_219, List.forall_mem_cons.mpr ⟨jq_220, List.forall_mem_cons.mpr ⟨jq_221, List.forall_mem_cons.mpr ⟨jq_222, List.forall_mem_cons.mpr ⟨jq_223, fun _ h => absurd h List.not_mem_nil⟩⟩⟩⟩⟩⟩⟩⟩⟩⟩⟩⟩⟩⟩⟩⟩
theorem jm_ok_14 : ∀ q ∈ jm_14, j_mfact q := by
  unfold jm_14
  exact List.forall_mem_cons.mpr ⟨jq_224, List.forall_mem_cons.mpr ⟨jq_225, List.forall_mem_cons.mpr ⟨jq_226, List.forall_mem_cons.mpr ⟨jq_227, List.forall_mem_cons.mpr ⟨jq_228, List.forall_mem_cons.mpr ⟨jq_229, List.forall_mem_cons.mpr ⟨jq_230, List.forall_mem_cons.mpr ⟨jq_231, List.forall_mem_cons.mpr ⟨jq_232, List.forall_mem_cons.mpr ⟨jq_233, List.forall_mem_cons.mpr ⟨jq_234, List.forall_mem_cons.mpr ⟨jq_235, List.forall_mem_cons.mpr ⟨jq_236, List.forall_mem_cons.mpr ⟨jq_237, List.forall_mem_cons.mpr ⟨jq_238, List.forall_mem_cons.mpr ⟨jq_239, fun _ h => absurd h List.not_mem_nil⟩⟩⟩⟩⟩⟩⟩⟩⟩⟩⟩⟩⟩⟩⟩⟩
theorem jm_ok_15 : ∀ q ∈ jm_15, j_mfact q := by
  unfold jm_15
  exact List.forall_mem_cons.mpr ⟨jq_240, List.forall_mem_cons.mpr ⟨jq_241, List.forall_mem_cons.mpr ⟨jq_242, List.forall_mem_cons.mpr ⟨jq_243, List.forall_mem_cons.mpr ⟨jq_244, List.forall_mem_cons.mpr ⟨jq_245, List.forall_mem_cons.mpr ⟨jq_246, List.forall_mem_cons.mpr ⟨jq_247, List.forall_mem_cons.mpr ⟨jq_248, List.forall_mem_cons.mpr ⟨jq_249, List.forall_mem_cons.mpr ⟨jq_250, List.forall_mem_cons.mpr ⟨jq_251, List.forall_mem_cons.mpr ⟨jq_252, List.forall_mem_cons.mpr ⟨jq_253, List.forall_mem_cons.mpr ⟨jq_254, List.forall_mem_cons.mpr ⟨jq_255, fun _ h => absurd h List.not_mem_nil⟩⟩⟩⟩⟩⟩⟩⟩⟩⟩⟩⟩⟩⟩⟩⟩
theorem jm_ok_16 : ∀ q ∈ jm_16, j_mfact q := by
  unfold jm_16
  exact List.forall_mem_cons.mpr ⟨jq_256, List.forall_mem_cons.mpr ⟨jq_257, List.forall_mem_cons.mpr ⟨jq_258, List.forall_mem_cons.mpr ⟨jq_259, List.forall_mem_cons.mpr ⟨jq_260, List.forall_mem_cons.mpr ⟨jq_261, List.forall_mem_cons.mpr ⟨jq_262, List.forall_mem_cons.mpr ⟨jq_263, List.forall_mem_cons.mpr ⟨jq_264, List.forall_mem_cons.mpr ⟨jq_265, List.forall_mem_cons.mpr ⟨jq_266, List.forall_mem_cons.mpr ⟨jq_267, List.forall_mem_cons.mpr ⟨jq_268, List.forall_mem_cons.mpr ⟨jq_269, List.forall_mem_cons.mpr ⟨jq_270, List.forall_mem_cons.mpr ⟨jq_271, fun _ h => absurd h List.not_mem_nil⟩⟩⟩⟩⟩⟩⟩⟩⟩⟩⟩⟩⟩⟩⟩⟩
theorem jm_ok_17 : ∀ q ∈ jm_17, j_mfact q := by
  unfold jm_17
  exact List.forall_mem_cons.mpr ⟨jq_272, List.forall_mem_cons.mpr ⟨jq_273, List.forall_mem_cons.mpr ⟨jq_274, List.forall_mem_cons.mpr ⟨jq_275, List.forall_mem_cons.mpr ⟨jq_276, List.forall_mem_cons.mpr ⟨jq_277, List.forall_mem_cons.mpr ⟨jq_278, List.forall_mem_cons.mpr ⟨jq_279, List.forall_mem_cons.mpr ⟨jq_280, List.forall_mem_cons.mpr ⟨jq_281, List.forall_mem_cons.mpr ⟨jq_282, List.forall_mem_cons.mpr ⟨jq_283, List.forall_mem_cons.mpr ⟨jq_284, List.forall_mem_cons.mpr ⟨jq_285, List.forall_mem_cons.mpr ⟨jq_286, List.forall_mem_cons.mpr ⟨jq_287, fun _ h => absurd h List.not_mem_nil⟩⟩⟩⟩⟩⟩⟩⟩⟩⟩⟩⟩⟩⟩⟩⟩
theorem jm_ok_18 : ∀ q ∈ jm_18, j_mfact q := by
  unfold jm_18
  exact List.forall_mem_cons.mpr ⟨jq_288, List.forall_mem_cons.mpr ⟨jq_289, List.forall_mem_cons.mpr ⟨jq_290, List.forall_mem_cons.mpr ⟨jq_291, List.forall_mem_cons.mpr ⟨jq_292, List.forall_mem_cons.mpr ⟨jq_293, List.forall_mem_cons.mpr ⟨jq_294, List.forall_mem_cons.mpr ⟨jq_295, List.forall_mem_cons.mpr ⟨jq_296, List.forall_mem_cons.mpr ⟨jq_297, List.forall_mem_cons.mpr ⟨jq_298, List.forall_mem_cons.mpr ⟨jq_299, fun _ h => absurd h List.not_mem_nil⟩⟩⟩⟩⟩⟩⟩⟩⟩⟩⟩⟩
theorem jm_ok : ∀ c ∈ jm_all, ∀ q ∈ c.2, j_mfact q := by
  unfold jm_all
  exact List.forall_mem_cons.mpr ⟨jm_ok_0, List.forall_mem_cons.mpr ⟨jm_ok_1, List.forall_mem_cons.mpr ⟨jm_ok_2, List.forall_mem_cons.mpr ⟨jm_ok_3, List.forall_mem_cons.mpr ⟨jm_ok_4, List.forall_mem_cons.mpr ⟨jm_ok_5, List.forall_mem_cons.mpr ⟨jm_ok_6, List.forall_mem_cons.mpr ⟨jm_ok_7, List.forall_mem_cons.mpr ⟨jm_ok_8, List.forall_mem_cons.mpr ⟨jm_ok_9, List.forall_mem_cons.mpr ⟨jm_ok_10, List.forall_mem_cons.mpr ⟨jm_ok_11, List.forall_mem_cons.mpr ⟨jm_ok_12, List.forall_mem_cons.mpr ⟨jm_ok_13, List.forall_mem_cons.mpr ⟨jm_ok_14, List.forall_mem_cons.mpr ⟨jm_ok_15, List.forall_mem_cons.mpr ⟨jm_ok_16, List.forall_mem_cons.mpr ⟨jm_ok_17, List.forall_mem_cons.mpr ⟨jm_ok_18, fun _ h => absurd h List.not_mem_nil⟩⟩⟩⟩⟩⟩⟩⟩⟩⟩⟩⟩⟩⟩⟩⟩⟩⟩⟩
