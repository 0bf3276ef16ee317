theorem dL_holds_0 : dec mL_holds 0 = .ok (.aload_n 0, 1) := by decide +kernel
theorem dL_holds_1 : dec mL_holds 1 = .ok (.iload_n 1, 1) := by decide +kernel
theorem dL_holds_2 : dec mL_holds 2 = .ok (.iload_n 2, 1) := by decide +kernel
theorem dL_holds_3 : dec mL_holds 3 = .ok (.invokevirtual 7, 3) := by decide +kernel
theorem dL_holds_6 : dec mL_holds 6 = .ok (.ireturn, 1) := by decide +kernel
theorem dL_holds_7 : dec mL_holds 7 = .ok (.astore_n 3, 1) := by decide +kernel
theorem dL_holds_8 : dec mL_holds 8 = .ok (.ldc 15, 2) := by decide +kernel
theorem dL_holds_10 : dec mL_holds 10 = .ok (.ireturn, 1) := by decide +kernel
theorem dL_doScript_0 : dec mL_doScript 0 = .ok (.aload_n 0, 1) := by decide +kernel
theorem dL_doScript_1 : dec mL_doScript 1 = .ok (.iload_n 1, 1) := by decide +kernel
theorem dL_doScript_2 : dec mL_doScript 2 = .ok (.lload_n 2, 1) := by decide +kernel
theorem dL_doScript_3 : dec mL_doScript 3 = .ok (.invokevirtual 16, 3) := by decide +kernel
theorem dL_doScript_6 : dec mL_doScript 6 = .ok (.ireturn, 1) := by decide +kernel
theorem dL_doScript_7 : dec mL_doScript 7 = .ok (.astore 4, 2) := by decide +kernel
theorem dL_doScript_9 : dec mL_doScript 9 = .ok (.ldc 22, 2) := by decide +kernel
theorem dL_doScript_11 : dec mL_doScript 11 = .ok (.ireturn, 1) := by decide +kernel
theorem dL_doSimulate_0 : dec mL_doSimulate 0 = .ok (.aload_n 0, 1) := by decide +kernel
theorem dL_doSimulate_1 : dec mL_doSimulate 1 = .ok (.lload_n 1, 1) := by decide +kernel
theorem dL_doSimulate_2 : dec mL_doSimulate 2 = .ok (.iload_n 3, 1) := by decide +kernel
theorem dL_doSimulate_3 : dec mL_doSimulate 3 = .ok (.invokevirtual 23, 3) := by decide +kernel
theorem dL_doSimulate_6 : dec mL_doSimulate 6 = .ok (.ireturn, 1) := by decide +kernel
theorem dL_doSimulate_7 : dec mL_doSimulate 7 = .ok (.astore 4, 2) := by decide +kernel
theorem dL_doSimulate_9 : dec mL_doSimulate 9 = .ok (.ldc 22, 2) := by decide +kernel
theorem dL_doSimulate_11 : dec mL_doSimulate 11 = .ok (.ireturn, 1) := by decide +kernel
theorem dL_tryAppend_0 : dec mL_tryAppend 0 = .ok (.aload_n 0, 1) := by decide +kernel
theorem dL_tryAppend_1 : dec mL_tryAppend 1 = .ok (.iload_n 1, 1) := by decide +kernel
theorem dL_tryAppend_2 : dec mL_tryAppend 2 = .ok (.invokevirtual 27, 3) := by decide +kernel
theorem dL_tryAppend_5 : dec mL_tryAppend 5 = .ok (.ireturn, 1) := by decide +kernel
theorem dL_tryAppend_6 : dec mL_tryAppend 6 = .ok (.astore_n 2, 1) := by decide +kernel
theorem dL_tryAppend_7 : dec mL_tryAppend 7 = .ok (.ldc 22, 2) := by decide +kernel
theorem dL_tryAppend_9 : dec mL_tryAppend 9 = .ok (.ireturn, 1) := by decide +kernel
theorem dL_tryAppend_10 : dec mL_tryAppend 10 = .ok (.astore_n 2, 1) := by decide +kernel
theorem dL_tryAppend_11 : dec mL_tryAppend 11 = .ok (.ldc 33, 2) := by decide +kernel
theorem dL_tryAppend_13 : dec mL_tryAppend 13 = .ok (.ireturn, 1) := by decide +kernel
theorem dL_tryLoad_0 : dec mL_tryLoad 0 = .ok (.aload_n 0, 1) := by decide +kernel
theorem dL_tryLoad_1 : dec mL_tryLoad 1 = .ok (.invokevirtual 34, 3) := by decide +kernel
theorem dL_tryLoad_4 : dec mL_tryLoad 4 = .ok (.ireturn, 1) := by decide +kernel
theorem dL_tryLoad_5 : dec mL_tryLoad 5 = .ok (.astore_n 1, 1) := by decide +kernel
theorem dL_tryLoad_6 : dec mL_tryLoad 6 = .ok (.ldc 33, 2) := by decide +kernel
theorem dL_tryLoad_8 : dec mL_tryLoad 8 = .ok (.ireturn, 1) := by decide +kernel
theorem dL_tryAbout_0 : dec mL_tryAbout 0 = .ok (.aload_n 0, 1) := by decide +kernel
theorem dL_tryAbout_1 : dec mL_tryAbout 1 = .ok (.iload_n 1, 1) := by decide +kernel
theorem dL_tryAbout_2 : dec mL_tryAbout 2 = .ok (.invokevirtual 38, 3) := by decide +kernel
theorem dL_tryAbout_5 : dec mL_tryAbout 5 = .ok (.ireturn, 1) := by decide +kernel
theorem dL_tryAbout_6 : dec mL_tryAbout 6 = .ok (.astore_n 2, 1) := by decide +kernel
theorem dL_tryAbout_7 : dec mL_tryAbout 7 = .ok (.ldc 22, 2) := by decide +kernel
theorem dL_tryAbout_9 : dec mL_tryAbout 9 = .ok (.ireturn, 1) := by decide +kernel
theorem dL_trySpot_0 : dec mL_trySpot 0 = .ok (.aload_n 0, 1) := by decide +kernel
theorem dL_trySpot_1 : dec mL_trySpot 1 = .ok (.iload_n 1, 1) := by decide +kernel
theorem dL_trySpot_2 : dec mL_trySpot 2 = .ok (.iload_n 2, 1) := by decide +kernel
theorem dL_trySpot_3 : dec mL_trySpot 3 = .ok (.iload_n 3, 1) := by decide +kernel
theorem dL_trySpot_4 : dec mL_trySpot 4 = .ok (.invokevirtual 41, 3) := by decide +kernel
theorem dL_trySpot_7 : dec mL_trySpot 7 = .ok (.ireturn, 1) := by decide +kernel
theorem dL_trySpot_8 : dec mL_trySpot 8 = .ok (.astore 4, 2) := by decide +kernel
theorem dL_trySpot_10 : dec mL_trySpot 10 = .ok (.ldc 15, 2) := by decide +kernel
theorem dL_trySpot_12 : dec mL_trySpot 12 = .ok (.ireturn, 1) := by decide +kernel
theorem dL_trySpot_13 : dec mL_trySpot 13 = .ok (.astore 4, 2) := by decide +kernel
theorem dL_trySpot_15 : dec mL_trySpot 15 = .ok (.ldc 22, 2) := by decide +kernel
theorem dL_trySpot_17 : dec mL_trySpot 17 = .ok (.ireturn, 1) := by decide +kernel
theorem dL_tryPlace_0 : dec mL_tryPlace 0 = .ok (.aload_n 0, 1) := by decide +kernel
theorem dL_tryPlace_1 : dec mL_tryPlace 1 = .ok (.iload_n 1, 1) := by decide +kernel
theorem dL_tryPlace_2 : dec mL_tryPlace 2 = .ok (.iload_n 2, 1) := by decide +kernel
theorem dL_tryPlace_3 : dec mL_tryPlace 3 = .ok (.invokevirtual 45, 3) := by decide +kernel
theorem dL_tryPlace_6 : dec mL_tryPlace 6 = .ok (.ireturn, 1) := by decide +kernel
theorem dL_tryPlace_7 : dec mL_tryPlace 7 = .ok (.astore_n 3, 1) := by decide +kernel
theorem dL_tryPlace_8 : dec mL_tryPlace 8 = .ok (.ldc 15, 2) := by decide +kernel
theorem dL_tryPlace_10 : dec mL_tryPlace 10 = .ok (.ireturn, 1) := by decide +kernel
theorem dL_tryPlace_11 : dec mL_tryPlace 11 = .ok (.astore_n 3, 1) := by decide +kernel
theorem dL_tryPlace_12 : dec mL_tryPlace 12 = .ok (.ldc 22, 2) := by decide +kernel
theorem dL_tryPlace_14 : dec mL_tryPlace 14 = .ok (.ireturn, 1) := by decide +kernel
theorem dL_tryTile_0 : dec mL_tryTile 0 = .ok (.aload_n 0, 1) := by decide +kernel
theorem dL_tryTile_1 : dec mL_tryTile 1 = .ok (.iload_n 1, 1) := by decide +kernel
theorem dL_tryTile_2 : dec mL_tryTile 2 = .ok (.iload_n 2, 1) := by decide +kernel
theorem dL_tryTile_3 : dec mL_tryTile 3 = .ok (.invokevirtual 49, 3) := by decide +kernel
theorem dL_tryTile_6 : dec mL_tryTile 6 = .ok (.ireturn, 1) := by decide +kernel
theorem dL_tryTile_7 : dec mL_tryTile 7 = .ok (.astore_n 3, 1) := by decide +kernel
theorem dL_tryTile_8 : dec mL_tryTile 8 = .ok (.ldc 15, 2) := by decide +kernel
theorem dL_tryTile_10 : dec mL_tryTile 10 = .ok (.ireturn, 1) := by decide +kernel
theorem dL_tryTile_11 : dec mL_tryTile 11 = .ok (.astore_n 3, 1) := by decide +kernel
theorem dL_tryTile_12 : dec mL_tryTile 12 = .ok (.ldc 22, 2) := by decide +kernel
theorem dL_tryTile_14 : dec mL_tryTile 14 = .ok (.ireturn, 1) := by decide +kernel
theorem dL_tryBegin_0 : dec mL_tryBegin 0 = .ok (.aload_n 0, 1) := by decide +kernel
theorem dL_tryBegin_1 : dec mL_tryBegin 1 = .ok (.iload_n 1, 1) := by decide +kernel
theorem dL_tryBegin_2 : dec mL_tryBegin 2 = .ok (.iload_n 2, 1) := by decide +kernel
theorem dL_tryBegin_3 : dec mL_tryBegin 3 = .ok (.invokevirtual 52, 3) := by decide +kernel
theorem dL_tryBegin_6 : dec mL_tryBegin 6 = .ok (.ireturn, 1) := by decide +kernel
theorem dL_tryBegin_7 : dec mL_tryBegin 7 = .ok (.astore_n 3, 1) := by decide +kernel
theorem dL_tryBegin_8 : dec mL_tryBegin 8 = .ok (.ldc 22, 2) := by decide +kernel
theorem dL_tryBegin_10 : dec mL_tryBegin 10 = .ok (.ireturn, 1) := by decide +kernel
theorem dL_tryGrey_0 : dec mL_tryGrey 0 = .ok (.aload_n 0, 1) := by decide +kernel
theorem dL_tryGrey_1 : dec mL_tryGrey 1 = .ok (.iload_n 1, 1) := by decide +kernel
theorem dL_tryGrey_2 : dec mL_tryGrey 2 = .ok (.iload_n 2, 1) := by decide +kernel
theorem dL_tryGrey_3 : dec mL_tryGrey 3 = .ok (.iload_n 3, 1) := by decide +kernel
theorem dL_tryGrey_4 : dec mL_tryGrey 4 = .ok (.invokevirtual 55, 3) := by decide +kernel
theorem dL_tryGrey_7 : dec mL_tryGrey 7 = .ok (.ireturn, 1) := by decide +kernel
theorem dL_tryGrey_8 : dec mL_tryGrey 8 = .ok (.astore 4, 2) := by decide +kernel
theorem dL_tryGrey_10 : dec mL_tryGrey 10 = .ok (.ldc 15, 2) := by decide +kernel
theorem dL_tryGrey_12 : dec mL_tryGrey 12 = .ok (.ireturn, 1) := by decide +kernel
theorem dL_tryGrey_13 : dec mL_tryGrey 13 = .ok (.astore 4, 2) := by decide +kernel
theorem dL_tryGrey_15 : dec mL_tryGrey 15 = .ok (.ldc 22, 2) := by decide +kernel
theorem dL_tryGrey_17 : dec mL_tryGrey 17 = .ok (.ireturn, 1) := by decide +kernel
theorem dL_tryFade_0 : dec mL_tryFade 0 = .ok (.aload_n 0, 1) := by decide +kernel
theorem dL_tryFade_1 : dec mL_tryFade 1 = .ok (.iload_n 1, 1) := by decide +kernel
theorem dL_tryFade_2 : dec mL_tryFade 2 = .ok (.iload_n 2, 1) := by decide +kernel
theorem dL_tryFade_3 : dec mL_tryFade 3 = .ok (.invokevirtual 58, 3) := by decide +kernel
theorem dL_tryFade_6 : dec mL_tryFade 6 = .ok (.ireturn, 1) := by decide +kernel
theorem dL_tryFade_7 : dec mL_tryFade 7 = .ok (.astore_n 3, 1) := by decide +kernel
theorem dL_tryFade_8 : dec mL_tryFade 8 = .ok (.ldc 22, 2) := by decide +kernel
theorem dL_tryFade_10 : dec mL_tryFade 10 = .ok (.ireturn, 1) := by decide +kernel
theorem dL_tryTurn_0 : dec mL_tryTurn 0 = .ok (.aload_n 0, 1) := by decide +kernel
theorem dL_tryTurn_1 : dec mL_tryTurn 1 = .ok (.iload_n 1, 1) := by decide +kernel
theorem dL_tryTurn_2 : dec mL_tryTurn 2 = .ok (.invokevirtual 61, 3) := by decide +kernel
theorem dL_tryTurn_5 : dec mL_tryTurn 5 = .ok (.ireturn, 1) := by decide +kernel
theorem dL_tryTurn_6 : dec mL_tryTurn 6 = .ok (.astore_n 2, 1) := by decide +kernel
theorem dL_tryTurn_7 : dec mL_tryTurn 7 = .ok (.ldc 15, 2) := by decide +kernel
theorem dL_tryTurn_9 : dec mL_tryTurn 9 = .ok (.ireturn, 1) := by decide +kernel
theorem dL_tryTurn_10 : dec mL_tryTurn 10 = .ok (.astore_n 2, 1) := by decide +kernel
theorem dL_tryTurn_11 : dec mL_tryTurn 11 = .ok (.ldc 33, 2) := by decide +kernel
theorem dL_tryTurn_13 : dec mL_tryTurn 13 = .ok (.ireturn, 1) := by decide +kernel
theorem dL_trySwap_0 : dec mL_trySwap 0 = .ok (.aload_n 0, 1) := by decide +kernel
theorem dL_trySwap_1 : dec mL_trySwap 1 = .ok (.iload_n 1, 1) := by decide +kernel
theorem dL_trySwap_2 : dec mL_trySwap 2 = .ok (.iload_n 2, 1) := by decide +kernel
theorem dL_trySwap_3 : dec mL_trySwap 3 = .ok (.invokevirtual 64, 3) := by decide +kernel
theorem dL_trySwap_6 : dec mL_trySwap 6 = .ok (.ireturn, 1) := by decide +kernel
theorem dL_trySwap_7 : dec mL_trySwap 7 = .ok (.astore_n 3, 1) := by decide +kernel
theorem dL_trySwap_8 : dec mL_trySwap 8 = .ok (.ldc 15, 2) := by decide +kernel
theorem dL_trySwap_10 : dec mL_trySwap 10 = .ok (.ireturn, 1) := by decide +kernel
theorem dL_trySwap_11 : dec mL_trySwap 11 = .ok (.astore_n 3, 1) := by decide +kernel
theorem dL_trySwap_12 : dec mL_trySwap 12 = .ok (.ldc 22, 2) := by decide +kernel
theorem dL_trySwap_14 : dec mL_trySwap 14 = .ok (.ireturn, 1) := by decide +kernel
theorem dL_trySwap_15 : dec mL_trySwap 15 = .ok (.astore_n 3, 1) := by decide +kernel
theorem dL_trySwap_16 : dec mL_trySwap 16 = .ok (.ldc 33, 2) := by decide +kernel
theorem dL_trySwap_18 : dec mL_trySwap 18 = .ok (.ireturn, 1) := by decide +kernel
theorem dL_tryFlip_0 : dec mL_tryFlip 0 = .ok (.aload_n 0, 1) := by decide +kernel
theorem dL_tryFlip_1 : dec mL_tryFlip 1 = .ok (.iload_n 1, 1) := by decide +kernel
theorem dL_tryFlip_2 : dec mL_tryFlip 2 = .ok (.iload_n 2, 1) := by decide +kernel
theorem dL_tryFlip_3 : dec mL_tryFlip 3 = .ok (.invokevirtual 67, 3) := by decide +kernel
theorem dL_tryFlip_6 : dec mL_tryFlip 6 = .ok (.ireturn, 1) := by decide +kernel
theorem dL_tryFlip_7 : dec mL_tryFlip 7 = .ok (.astore_n 3, 1) := by decide +kernel
theorem dL_tryFlip_8 : dec mL_tryFlip 8 = .ok (.ldc 15, 2) := by decide +kernel
theorem dL_tryFlip_10 : dec mL_tryFlip 10 = .ok (.ireturn, 1) := by decide +kernel
theorem dL_tryFlip_11 : dec mL_tryFlip 11 = .ok (.astore_n 3, 1) := by decide +kernel
theorem dL_tryFlip_12 : dec mL_tryFlip 12 = .ok (.ldc 33, 2) := by decide +kernel
theorem dL_tryFlip_14 : dec mL_tryFlip 14 = .ok (.ireturn, 1) := by decide +kernel
theorem dL_tryImprove_0 : dec mL_tryImprove 0 = .ok (.aload_n 0, 1) := by decide +kernel
theorem dL_tryImprove_1 : dec mL_tryImprove 1 = .ok (.iload_n 1, 1) := by decide +kernel
theorem dL_tryImprove_2 : dec mL_tryImprove 2 = .ok (.invokevirtual 70, 3) := by decide +kernel
theorem dL_tryImprove_5 : dec mL_tryImprove 5 = .ok (.ireturn, 1) := by decide +kernel
theorem dL_tryImprove_6 : dec mL_tryImprove 6 = .ok (.astore_n 2, 1) := by decide +kernel
theorem dL_tryImprove_7 : dec mL_tryImprove 7 = .ok (.ldc 22, 2) := by decide +kernel
theorem dL_tryImprove_9 : dec mL_tryImprove 9 = .ok (.ireturn, 1) := by decide +kernel
theorem dL_tryUndo_0 : dec mL_tryUndo 0 = .ok (.aload_n 0, 1) := by decide +kernel
theorem dL_tryUndo_1 : dec mL_tryUndo 1 = .ok (.invokevirtual 73, 3) := by decide +kernel
theorem dL_tryUndo_4 : dec mL_tryUndo 4 = .ok (.ireturn, 1) := by decide +kernel
theorem dL_tryUndo_5 : dec mL_tryUndo 5 = .ok (.astore_n 1, 1) := by decide +kernel
theorem dL_tryUndo_6 : dec mL_tryUndo 6 = .ok (.ldc 33, 2) := by decide +kernel
theorem dL_tryUndo_8 : dec mL_tryUndo 8 = .ok (.ireturn, 1) := by decide +kernel
theorem dL_tryGain_0 : dec mL_tryGain 0 = .ok (.aload_n 0, 1) := by decide +kernel
theorem dL_tryGain_1 : dec mL_tryGain 1 = .ok (.iload_n 1, 1) := by decide +kernel
theorem dL_tryGain_2 : dec mL_tryGain 2 = .ok (.invokevirtual 76, 3) := by decide +kernel
theorem dL_tryGain_5 : dec mL_tryGain 5 = .ok (.ireturn, 1) := by decide +kernel
theorem dL_tryGain_6 : dec mL_tryGain 6 = .ok (.astore_n 2, 1) := by decide +kernel
theorem dL_tryGain_7 : dec mL_tryGain 7 = .ok (.ldc 22, 2) := by decide +kernel
theorem dL_tryGain_9 : dec mL_tryGain 9 = .ok (.ireturn, 1) := by decide +kernel
theorem dL_tryBest_0 : dec mL_tryBest 0 = .ok (.aload_n 0, 1) := by decide +kernel
theorem dL_tryBest_1 : dec mL_tryBest 1 = .ok (.iload_n 1, 1) := by decide +kernel
theorem dL_tryBest_2 : dec mL_tryBest 2 = .ok (.invokevirtual 79, 3) := by decide +kernel
theorem dL_tryBest_5 : dec mL_tryBest 5 = .ok (.ireturn, 1) := by decide +kernel
theorem dL_tryBest_6 : dec mL_tryBest 6 = .ok (.astore_n 2, 1) := by decide +kernel
theorem dL_tryBest_7 : dec mL_tryBest 7 = .ok (.ldc 22, 2) := by decide +kernel
theorem dL_tryBest_9 : dec mL_tryBest 9 = .ok (.ireturn, 1) := by decide +kernel
theorem dL_tryIf_0 : dec mL_tryIf 0 = .ok (.aload_n 0, 1) := by decide +kernel
theorem dL_tryIf_1 : dec mL_tryIf 1 = .ok (.iload_n 1, 1) := by decide +kernel
theorem dL_tryIf_2 : dec mL_tryIf 2 = .ok (.iload_n 2, 1) := by decide +kernel
theorem dL_tryIf_3 : dec mL_tryIf 3 = .ok (.invokevirtual 82, 3) := by decide +kernel
theorem dL_tryIf_6 : dec mL_tryIf 6 = .ok (.ireturn, 1) := by decide +kernel
theorem dL_tryIf_7 : dec mL_tryIf 7 = .ok (.astore_n 3, 1) := by decide +kernel
theorem dL_tryIf_8 : dec mL_tryIf 8 = .ok (.ldc 22, 2) := by decide +kernel
theorem dL_tryIf_10 : dec mL_tryIf 10 = .ok (.ireturn, 1) := by decide +kernel
theorem dL_tryWorst_0 : dec mL_tryWorst 0 = .ok (.aload_n 0, 1) := by decide +kernel
theorem dL_tryWorst_1 : dec mL_tryWorst 1 = .ok (.iload_n 1, 1) := by decide +kernel
theorem dL_tryWorst_2 : dec mL_tryWorst 2 = .ok (.invokevirtual 85, 3) := by decide +kernel
theorem dL_tryWorst_5 : dec mL_tryWorst 5 = .ok (.ireturn, 1) := by decide +kernel
theorem dL_tryWorst_6 : dec mL_tryWorst 6 = .ok (.astore_n 2, 1) := by decide +kernel
theorem dL_tryWorst_7 : dec mL_tryWorst 7 = .ok (.ldc 15, 2) := by decide +kernel
theorem dL_tryWorst_9 : dec mL_tryWorst 9 = .ok (.ireturn, 1) := by decide +kernel
theorem dL_tryFits_0 : dec mL_tryFits 0 = .ok (.aload_n 0, 1) := by decide +kernel
theorem dL_tryFits_1 : dec mL_tryFits 1 = .ok (.iload_n 1, 1) := by decide +kernel
theorem dL_tryFits_2 : dec mL_tryFits 2 = .ok (.invokevirtual 88, 3) := by decide +kernel
theorem dL_tryFits_5 : dec mL_tryFits 5 = .ok (.ireturn, 1) := by decide +kernel
theorem dL_tryFits_6 : dec mL_tryFits 6 = .ok (.astore_n 2, 1) := by decide +kernel
theorem dL_tryFits_7 : dec mL_tryFits 7 = .ok (.ldc 15, 2) := by decide +kernel
theorem dL_tryFits_9 : dec mL_tryFits 9 = .ok (.ireturn, 1) := by decide +kernel
theorem dL_tryKeep_0 : dec mL_tryKeep 0 = .ok (.aload_n 0, 1) := by decide +kernel
theorem dL_tryKeep_1 : dec mL_tryKeep 1 = .ok (.iload_n 1, 1) := by decide +kernel
theorem dL_tryKeep_2 : dec mL_tryKeep 2 = .ok (.invokevirtual 91, 3) := by decide +kernel
theorem dL_tryKeep_5 : dec mL_tryKeep 5 = .ok (.ireturn, 1) := by decide +kernel
theorem dL_tryKeep_6 : dec mL_tryKeep 6 = .ok (.astore_n 2, 1) := by decide +kernel
theorem dL_tryKeep_7 : dec mL_tryKeep 7 = .ok (.ldc 15, 2) := by decide +kernel
theorem dL_tryKeep_9 : dec mL_tryKeep 9 = .ok (.ireturn, 1) := by decide +kernel
theorem dL_tryBack_0 : dec mL_tryBack 0 = .ok (.aload_n 0, 1) := by decide +kernel
theorem dL_tryBack_1 : dec mL_tryBack 1 = .ok (.iload_n 1, 1) := by decide +kernel
theorem dL_tryBack_2 : dec mL_tryBack 2 = .ok (.invokevirtual 94, 3) := by decide +kernel
theorem dL_tryBack_5 : dec mL_tryBack 5 = .ok (.ireturn, 1) := by decide +kernel
theorem dL_tryBack_6 : dec mL_tryBack 6 = .ok (.astore_n 2, 1) := by decide +kernel
theorem dL_tryBack_7 : dec mL_tryBack 7 = .ok (.ldc 15, 2) := by decide +kernel
theorem dL_tryBack_9 : dec mL_tryBack 9 = .ok (.ireturn, 1) := by decide +kernel
theorem dL_tryBack_10 : dec mL_tryBack 10 = .ok (.astore_n 2, 1) := by decide +kernel
theorem dL_tryBack_11 : dec mL_tryBack 11 = .ok (.ldc 33, 2) := by decide +kernel
theorem dL_tryBack_13 : dec mL_tryBack 13 = .ok (.ireturn, 1) := by decide +kernel
theorem dL_call_0 : dec mL_call 0 = .ok (.iload_n 1, 1) := by decide +kernel
theorem dL_call_1 : dec mL_call 1 = .ok (.tableswitch 226 0 19 #[95, 101, 106, 112, 121, 128, 135, 142, 151, 158, 164, 171, 178, 184, 189, 195, 201, 208, 214, 220], 95) := by decide +kernel
theorem dL_call_96 : dec mL_call 96 = .ok (.aload_n 0, 1) := by decide +kernel
theorem dL_call_97 : dec mL_call 97 = .ok (.iload_n 2, 1) := by decide +kernel
theorem dL_call_98 : dec mL_call 98 = .ok (.invokestatic 97, 3) := by decide +kernel
theorem dL_call_101 : dec mL_call 101 = .ok (.ireturn, 1) := by decide +kernel
theorem dL_call_102 : dec mL_call 102 = .ok (.aload_n 0, 1) := by decide +kernel
theorem dL_call_103 : dec mL_call 103 = .ok (.invokestatic 103, 3) := by decide +kernel
theorem dL_call_106 : dec mL_call 106 = .ok (.ireturn, 1) := by decide +kernel
theorem dL_call_107 : dec mL_call 107 = .ok (.aload_n 0, 1) := by decide +kernel
theorem dL_call_108 : dec mL_call 108 = .ok (.iload_n 2, 1) := by decide +kernel
theorem dL_call_109 : dec mL_call 109 = .ok (.invokestatic 107, 3) := by decide +kernel
theorem dL_call_112 : dec mL_call 112 = .ok (.ireturn, 1) := by decide +kernel
theorem dL_call_113 : dec mL_call 113 = .ok (.aload_n 0, 1) := by decide +kernel
theorem dL_call_114 : dec mL_call 114 = .ok (.iload_n 2, 1) := by decide +kernel
theorem dL_call_115 : dec mL_call 115 = .ok (.iload_n 3, 1) := by decide +kernel
theorem dL_call_116 : dec mL_call 116 = .ok (.iload 4, 2) := by decide +kernel
theorem dL_call_118 : dec mL_call 118 = .ok (.invokestatic 110, 3) := by decide +kernel
theorem dL_call_121 : dec mL_call 121 = .ok (.ireturn, 1) := by decide +kernel
theorem dL_call_122 : dec mL_call 122 = .ok (.aload_n 0, 1) := by decide +kernel
theorem dL_call_123 : dec mL_call 123 = .ok (.iload_n 2, 1) := by decide +kernel
theorem dL_call_124 : dec mL_call 124 = .ok (.iload_n 3, 1) := by decide +kernel
theorem dL_call_125 : dec mL_call 125 = .ok (.invokestatic 114, 3) := by decide +kernel
theorem dL_call_128 : dec mL_call 128 = .ok (.ireturn, 1) := by decide +kernel
theorem dL_call_129 : dec mL_call 129 = .ok (.aload_n 0, 1) := by decide +kernel
theorem dL_call_130 : dec mL_call 130 = .ok (.iload_n 2, 1) := by decide +kernel
theorem dL_call_131 : dec mL_call 131 = .ok (.iload_n 3, 1) := by decide +kernel
theorem dL_call_132 : dec mL_call 132 = .ok (.invokestatic 118, 3) := by decide +kernel
theorem dL_call_135 : dec mL_call 135 = .ok (.ireturn, 1) := by decide +kernel
theorem dL_call_136 : dec mL_call 136 = .ok (.aload_n 0, 1) := by decide +kernel
theorem dL_call_137 : dec mL_call 137 = .ok (.iload_n 2, 1) := by decide +kernel
theorem dL_call_138 : dec mL_call 138 = .ok (.iload_n 3, 1) := by decide +kernel
theorem dL_call_139 : dec mL_call 139 = .ok (.invokestatic 121, 3) := by decide +kernel
theorem dL_call_142 : dec mL_call 142 = .ok (.ireturn, 1) := by decide +kernel
theorem dL_call_143 : dec mL_call 143 = .ok (.aload_n 0, 1) := by decide +kernel
theorem dL_call_144 : dec mL_call 144 = .ok (.iload_n 2, 1) := by decide +kernel
theorem dL_call_145 : dec mL_call 145 = .ok (.iload_n 3, 1) := by decide +kernel
theorem dL_call_146 : dec mL_call 146 = .ok (.iload 4, 2) := by decide +kernel
theorem dL_call_148 : dec mL_call 148 = .ok (.invokestatic 124, 3) := by decide +kernel
theorem dL_call_151 : dec mL_call 151 = .ok (.ireturn, 1) := by decide +kernel
theorem dL_call_152 : dec mL_call 152 = .ok (.aload_n 0, 1) := by decide +kernel
theorem dL_call_153 : dec mL_call 153 = .ok (.iload_n 2, 1) := by decide +kernel
theorem dL_call_154 : dec mL_call 154 = .ok (.iload_n 3, 1) := by decide +kernel
theorem dL_call_155 : dec mL_call 155 = .ok (.invokestatic 127, 3) := by decide +kernel
theorem dL_call_158 : dec mL_call 158 = .ok (.ireturn, 1) := by decide +kernel
theorem dL_call_159 : dec mL_call 159 = .ok (.aload_n 0, 1) := by decide +kernel
theorem dL_call_160 : dec mL_call 160 = .ok (.iload_n 2, 1) := by decide +kernel
theorem dL_call_161 : dec mL_call 161 = .ok (.invokestatic 130, 3) := by decide +kernel
theorem dL_call_164 : dec mL_call 164 = .ok (.ireturn, 1) := by decide +kernel
theorem dL_call_165 : dec mL_call 165 = .ok (.aload_n 0, 1) := by decide +kernel
theorem dL_call_166 : dec mL_call 166 = .ok (.iload_n 2, 1) := by decide +kernel
theorem dL_call_167 : dec mL_call 167 = .ok (.iload_n 3, 1) := by decide +kernel
theorem dL_call_168 : dec mL_call 168 = .ok (.invokestatic 133, 3) := by decide +kernel
theorem dL_call_171 : dec mL_call 171 = .ok (.ireturn, 1) := by decide +kernel
theorem dL_call_172 : dec mL_call 172 = .ok (.aload_n 0, 1) := by decide +kernel
theorem dL_call_173 : dec mL_call 173 = .ok (.iload_n 2, 1) := by decide +kernel
theorem dL_call_174 : dec mL_call 174 = .ok (.iload_n 3, 1) := by decide +kernel
theorem dL_call_175 : dec mL_call 175 = .ok (.invokestatic 136, 3) := by decide +kernel
theorem dL_call_178 : dec mL_call 178 = .ok (.ireturn, 1) := by decide +kernel
theorem dL_call_179 : dec mL_call 179 = .ok (.aload_n 0, 1) := by decide +kernel
theorem dL_call_180 : dec mL_call 180 = .ok (.iload_n 2, 1) := by decide +kernel
theorem dL_call_181 : dec mL_call 181 = .ok (.invokestatic 139, 3) := by decide +kernel
theorem dL_call_184 : dec mL_call 184 = .ok (.ireturn, 1) := by decide +kernel
theorem dL_call_185 : dec mL_call 185 = .ok (.aload_n 0, 1) := by decide +kernel
theorem dL_call_186 : dec mL_call 186 = .ok (.invokestatic 142, 3) := by decide +kernel
theorem dL_call_189 : dec mL_call 189 = .ok (.ireturn, 1) := by decide +kernel
theorem dL_call_190 : dec mL_call 190 = .ok (.aload_n 0, 1) := by decide +kernel
theorem dL_call_191 : dec mL_call 191 = .ok (.iload_n 2, 1) := by decide +kernel
theorem dL_call_192 : dec mL_call 192 = .ok (.invokestatic 145, 3) := by decide +kernel
theorem dL_call_195 : dec mL_call 195 = .ok (.ireturn, 1) := by decide +kernel
theorem dL_call_196 : dec mL_call 196 = .ok (.aload_n 0, 1) := by decide +kernel
theorem dL_call_197 : dec mL_call 197 = .ok (.iload_n 2, 1) := by decide +kernel
theorem dL_call_198 : dec mL_call 198 = .ok (.invokestatic 148, 3) := by decide +kernel
theorem dL_call_201 : dec mL_call 201 = .ok (.ireturn, 1) := by decide +kernel
theorem dL_call_202 : dec mL_call 202 = .ok (.aload_n 0, 1) := by decide +kernel
theorem dL_call_203 : dec mL_call 203 = .ok (.iload_n 2, 1) := by decide +kernel
theorem dL_call_204 : dec mL_call 204 = .ok (.iload_n 3, 1) := by decide +kernel
theorem dL_call_205 : dec mL_call 205 = .ok (.invokestatic 151, 3) := by decide +kernel
theorem dL_call_208 : dec mL_call 208 = .ok (.ireturn, 1) := by decide +kernel
theorem dL_call_209 : dec mL_call 209 = .ok (.aload_n 0, 1) := by decide +kernel
theorem dL_call_210 : dec mL_call 210 = .ok (.iload_n 2, 1) := by decide +kernel
theorem dL_call_211 : dec mL_call 211 = .ok (.invokestatic 154, 3) := by decide +kernel
theorem dL_call_214 : dec mL_call 214 = .ok (.ireturn, 1) := by decide +kernel
theorem dL_call_215 : dec mL_call 215 = .ok (.aload_n 0, 1) := by decide +kernel
theorem dL_call_216 : dec mL_call 216 = .ok (.iload_n 2, 1) := by decide +kernel
theorem dL_call_217 : dec mL_call 217 = .ok (.invokestatic 157, 3) := by decide +kernel
theorem dL_call_220 : dec mL_call 220 = .ok (.ireturn, 1) := by decide +kernel
theorem dL_call_221 : dec mL_call 221 = .ok (.aload_n 0, 1) := by decide +kernel
theorem dL_call_222 : dec mL_call 222 = .ok (.iload_n 2, 1) := by decide +kernel
theorem dL_call_223 : dec mL_call 223 = .ok (.invokestatic 160, 3) := by decide +kernel
theorem dL_call_226 : dec mL_call 226 = .ok (.ireturn, 1) := by decide +kernel
theorem dL_call_227 : dec mL_call 227 = .ok (.aload_n 0, 1) := by decide +kernel
theorem dL_call_228 : dec mL_call 228 = .ok (.iload_n 2, 1) := by decide +kernel
theorem dL_call_229 : dec mL_call 229 = .ok (.invokestatic 163, 3) := by decide +kernel
theorem dL_call_232 : dec mL_call 232 = .ok (.ireturn, 1) := by decide +kernel
theorem dL_cell_0 : dec mL_cell 0 = .ok (.iload_n 1, 1) := by decide +kernel
theorem dL_cell_1 : dec mL_cell 1 = .ok (.aload_n 0, 1) := by decide +kernel
theorem dL_cell_2 : dec mL_cell 2 = .ok (.arraylength, 1) := by decide +kernel
theorem dL_cell_3 : dec mL_cell 3 = .ok (.if_icmp .ge 9, 3) := by decide +kernel
theorem dL_cell_6 : dec mL_cell 6 = .ok (.aload_n 0, 1) := by decide +kernel
theorem dL_cell_7 : dec mL_cell 7 = .ok (.iload_n 1, 1) := by decide +kernel
theorem dL_cell_8 : dec mL_cell 8 = .ok (.iaload, 1) := by decide +kernel
theorem dL_cell_9 : dec mL_cell 9 = .ok (.goto 13, 3) := by decide +kernel
theorem dL_cell_12 : dec mL_cell 12 = .ok (.ldc 166, 2) := by decide +kernel
theorem dL_cell_14 : dec mL_cell 14 = .ok (.iload_n 1, 1) := by decide +kernel
theorem dL_cell_15 : dec mL_cell 15 = .ok (.iconst 3, 1) := by decide +kernel
theorem dL_cell_16 : dec mL_cell 16 = .ok (.iadd, 1) := by decide +kernel
theorem dL_cell_17 : dec mL_cell 17 = .ok (.imul, 1) := by decide +kernel
theorem dL_cell_18 : dec mL_cell 18 = .ok (.sipush 11701, 3) := by decide +kernel
theorem dL_cell_21 : dec mL_cell 21 = .ok (.iadd, 1) := by decide +kernel
theorem dL_cell_22 : dec mL_cell 22 = .ok (.ldc 167, 2) := by decide +kernel
theorem dL_cell_24 : dec mL_cell 24 = .ok (.iand, 1) := by decide +kernel
theorem dL_cell_25 : dec mL_cell 25 = .ok (.ireturn, 1) := by decide +kernel
theorem dL_thrown_0 : dec mL_thrown 0 = .ok (.iload_n 0, 1) := by decide +kernel
theorem dL_thrown_1 : dec mL_thrown 1 = .ok (.ldc 15, 2) := by decide +kernel
theorem dL_thrown_3 : dec mL_thrown 3 = .ok (.if_icmp .eq 15, 3) := by decide +kernel
theorem dL_thrown_6 : dec mL_thrown 6 = .ok (.iload_n 0, 1) := by decide +kernel
theorem dL_thrown_7 : dec mL_thrown 7 = .ok (.ldc 22, 2) := by decide +kernel
theorem dL_thrown_9 : dec mL_thrown 9 = .ok (.if_icmp .eq 9, 3) := by decide +kernel
theorem dL_thrown_12 : dec mL_thrown 12 = .ok (.iload_n 0, 1) := by decide +kernel
theorem dL_thrown_13 : dec mL_thrown 13 = .ok (.ldc 33, 2) := by decide +kernel
theorem dL_thrown_15 : dec mL_thrown 15 = .ok (.if_icmp .ne 7, 3) := by decide +kernel
theorem dL_thrown_18 : dec mL_thrown 18 = .ok (.iconst 1, 1) := by decide +kernel
theorem dL_thrown_19 : dec mL_thrown 19 = .ok (.goto 4, 3) := by decide +kernel
theorem dL_thrown_22 : dec mL_thrown 22 = .ok (.iconst 0, 1) := by decide +kernel
theorem dL_thrown_23 : dec mL_thrown 23 = .ok (.ireturn, 1) := by decide +kernel
theorem dL_refuses_0 : dec mL_refuses 0 = .ok (.aload_n 0, 1) := by decide +kernel
theorem dL_refuses_1 : dec mL_refuses 1 = .ok (.iconst 2, 1) := by decide +kernel
theorem dL_refuses_2 : dec mL_refuses 2 = .ok (.iconst 4, 1) := by decide +kernel
theorem dL_refuses_3 : dec mL_refuses 3 = .ok (.iconst 0, 1) := by decide +kernel
theorem dL_refuses_4 : dec mL_refuses 4 = .ok (.iconst 0, 1) := by decide +kernel
theorem dL_refuses_5 : dec mL_refuses 5 = .ok (.invokestatic 168, 3) := by decide +kernel
theorem dL_refuses_8 : dec mL_refuses 8 = .ok (.istore_n 2, 1) := by decide +kernel
theorem dL_refuses_9 : dec mL_refuses 9 = .ok (.aload_n 0, 1) := by decide +kernel
theorem dL_refuses_10 : dec mL_refuses 10 = .ok (.iconst 2, 1) := by decide +kernel
theorem dL_refuses_11 : dec mL_refuses 11 = .ok (.iconst 2, 1) := by decide +kernel
theorem dL_refuses_12 : dec mL_refuses 12 = .ok (.iconst 0, 1) := by decide +kernel
theorem dL_refuses_13 : dec mL_refuses 13 = .ok (.iconst 0, 1) := by decide +kernel
theorem dL_refuses_14 : dec mL_refuses 14 = .ok (.invokestatic 168, 3) := by decide +kernel
theorem dL_refuses_17 : dec mL_refuses 17 = .ok (.istore_n 3, 1) := by decide +kernel
theorem dL_refuses_18 : dec mL_refuses 18 = .ok (.aload_n 0, 1) := by decide +kernel
theorem dL_refuses_19 : dec mL_refuses 19 = .ok (.iconst 2, 1) := by decide +kernel
theorem dL_refuses_20 : dec mL_refuses 20 = .ok (.iconst 3, 1) := by decide +kernel
theorem dL_refuses_21 : dec mL_refuses 21 = .ok (.iconst 0, 1) := by decide +kernel
theorem dL_refuses_22 : dec mL_refuses 22 = .ok (.iconst 0, 1) := by decide +kernel
theorem dL_refuses_23 : dec mL_refuses 23 = .ok (.invokestatic 168, 3) := by decide +kernel
theorem dL_refuses_26 : dec mL_refuses 26 = .ok (.istore 4, 2) := by decide +kernel
theorem dL_refuses_28 : dec mL_refuses 28 = .ok (.iload_n 1, 1) := by decide +kernel
theorem dL_refuses_29 : dec mL_refuses 29 = .ok (.iconst 2, 1) := by decide +kernel
theorem dL_refuses_30 : dec mL_refuses 30 = .ok (.irem, 1) := by decide +kernel
theorem dL_refuses_31 : dec mL_refuses 31 = .ok (.ifCond .ne 12, 3) := by decide +kernel
theorem dL_refuses_34 : dec mL_refuses 34 = .ok (.iconst (-1), 1) := by decide +kernel
theorem dL_refuses_35 : dec mL_refuses 35 = .ok (.iload_n 1, 1) := by decide +kernel
theorem dL_refuses_36 : dec mL_refuses 36 = .ok (.bipush 99, 2) := by decide +kernel
theorem dL_refuses_38 : dec mL_refuses 38 = .ok (.irem, 1) := by decide +kernel
theorem dL_refuses_39 : dec mL_refuses 39 = .ok (.isub, 1) := by decide +kernel
theorem dL_refuses_40 : dec mL_refuses 40 = .ok (.goto 9, 3) := by decide +kernel
theorem dL_refuses_43 : dec mL_refuses 43 = .ok (.iload_n 2, 1) := by decide +kernel
theorem dL_refuses_44 : dec mL_refuses 44 = .ok (.iload_n 1, 1) := by decide +kernel
theorem dL_refuses_45 : dec mL_refuses 45 = .ok (.bipush 99, 2) := by decide +kernel
theorem dL_refuses_47 : dec mL_refuses 47 = .ok (.irem, 1) := by decide +kernel
theorem dL_refuses_48 : dec mL_refuses 48 = .ok (.iadd, 1) := by decide +kernel
theorem dL_refuses_49 : dec mL_refuses 49 = .ok (.istore 5, 2) := by decide +kernel
theorem dL_refuses_51 : dec mL_refuses 51 = .ok (.iload_n 1, 1) := by decide +kernel
theorem dL_refuses_52 : dec mL_refuses 52 = .ok (.iconst 2, 1) := by decide +kernel
theorem dL_refuses_53 : dec mL_refuses 53 = .ok (.irem, 1) := by decide +kernel
theorem dL_refuses_54 : dec mL_refuses 54 = .ok (.ifCond .ne 12, 3) := by decide +kernel
theorem dL_refuses_57 : dec mL_refuses 57 = .ok (.iconst (-1), 1) := by decide +kernel
theorem dL_refuses_58 : dec mL_refuses 58 = .ok (.iload_n 1, 1) := by decide +kernel
theorem dL_refuses_59 : dec mL_refuses 59 = .ok (.bipush 99, 2) := by decide +kernel
theorem dL_refuses_61 : dec mL_refuses 61 = .ok (.irem, 1) := by decide +kernel
theorem dL_refuses_62 : dec mL_refuses 62 = .ok (.isub, 1) := by decide +kernel
theorem dL_refuses_63 : dec mL_refuses 63 = .ok (.goto 9, 3) := by decide +kernel
theorem dL_refuses_66 : dec mL_refuses 66 = .ok (.iload_n 3, 1) := by decide +kernel
theorem dL_refuses_67 : dec mL_refuses 67 = .ok (.iload_n 1, 1) := by decide +kernel
theorem dL_refuses_68 : dec mL_refuses 68 = .ok (.bipush 99, 2) := by decide +kernel
theorem dL_refuses_70 : dec mL_refuses 70 = .ok (.irem, 1) := by decide +kernel
theorem dL_refuses_71 : dec mL_refuses 71 = .ok (.iadd, 1) := by decide +kernel
theorem dL_refuses_72 : dec mL_refuses 72 = .ok (.istore 6, 2) := by decide +kernel
theorem dL_refuses_74 : dec mL_refuses 74 = .ok (.iload_n 1, 1) := by decide +kernel
theorem dL_refuses_75 : dec mL_refuses 75 = .ok (.iconst 2, 1) := by decide +kernel
theorem dL_refuses_76 : dec mL_refuses 76 = .ok (.irem, 1) := by decide +kernel
theorem dL_refuses_77 : dec mL_refuses 77 = .ok (.ifCond .ne 12, 3) := by decide +kernel
theorem dL_refuses_80 : dec mL_refuses 80 = .ok (.iconst (-1), 1) := by decide +kernel
theorem dL_refuses_81 : dec mL_refuses 81 = .ok (.iload_n 1, 1) := by decide +kernel
theorem dL_refuses_82 : dec mL_refuses 82 = .ok (.bipush 99, 2) := by decide +kernel
theorem dL_refuses_84 : dec mL_refuses 84 = .ok (.irem, 1) := by decide +kernel
theorem dL_refuses_85 : dec mL_refuses 85 = .ok (.isub, 1) := by decide +kernel
theorem dL_refuses_86 : dec mL_refuses 86 = .ok (.goto 10, 3) := by decide +kernel
theorem dL_refuses_89 : dec mL_refuses 89 = .ok (.iload 4, 2) := by decide +kernel
theorem dL_refuses_91 : dec mL_refuses 91 = .ok (.iload_n 1, 1) := by decide +kernel
theorem dL_refuses_92 : dec mL_refuses 92 = .ok (.bipush 99, 2) := by decide +kernel
theorem dL_refuses_94 : dec mL_refuses 94 = .ok (.irem, 1) := by decide +kernel
theorem dL_refuses_95 : dec mL_refuses 95 = .ok (.iadd, 1) := by decide +kernel
theorem dL_refuses_96 : dec mL_refuses 96 = .ok (.istore 7, 2) := by decide +kernel
theorem dL_refuses_98 : dec mL_refuses 98 = .ok (.iload_n 1, 1) := by decide +kernel
theorem dL_refuses_99 : dec mL_refuses 99 = .ok (.iconst 2, 1) := by decide +kernel
theorem dL_refuses_100 : dec mL_refuses 100 = .ok (.irem, 1) := by decide +kernel
theorem dL_refuses_101 : dec mL_refuses 101 = .ok (.ifCond .ne 12, 3) := by decide +kernel
theorem dL_refuses_104 : dec mL_refuses 104 = .ok (.iconst (-1), 1) := by decide +kernel
theorem dL_refuses_105 : dec mL_refuses 105 = .ok (.iload_n 1, 1) := by decide +kernel
theorem dL_refuses_106 : dec mL_refuses 106 = .ok (.bipush 99, 2) := by decide +kernel
theorem dL_refuses_108 : dec mL_refuses 108 = .ok (.irem, 1) := by decide +kernel
theorem dL_refuses_109 : dec mL_refuses 109 = .ok (.isub, 1) := by decide +kernel
theorem dL_refuses_110 : dec mL_refuses 110 = .ok (.goto 10, 3) := by decide +kernel
theorem dL_refuses_113 : dec mL_refuses 113 = .ok (.bipush 100, 2) := by decide +kernel
theorem dL_refuses_115 : dec mL_refuses 115 = .ok (.iload_n 1, 1) := by decide +kernel
theorem dL_refuses_116 : dec mL_refuses 116 = .ok (.bipush 99, 2) := by decide +kernel
theorem dL_refuses_118 : dec mL_refuses 118 = .ok (.irem, 1) := by decide +kernel
theorem dL_refuses_119 : dec mL_refuses 119 = .ok (.iadd, 1) := by decide +kernel
theorem dL_refuses_120 : dec mL_refuses 120 = .ok (.istore 8, 2) := by decide +kernel
theorem dL_refuses_122 : dec mL_refuses 122 = .ok (.aload_n 0, 1) := by decide +kernel
theorem dL_refuses_123 : dec mL_refuses 123 = .ok (.iconst 0, 1) := by decide +kernel
theorem dL_refuses_124 : dec mL_refuses 124 = .ok (.iload_n 1, 1) := by decide +kernel
theorem dL_refuses_125 : dec mL_refuses 125 = .ok (.iconst 2, 1) := by decide +kernel
theorem dL_refuses_126 : dec mL_refuses 126 = .ok (.irem, 1) := by decide +kernel
theorem dL_refuses_127 : dec mL_refuses 127 = .ok (.ifCond .ne 12, 3) := by decide +kernel
theorem dL_refuses_130 : dec mL_refuses 130 = .ok (.iconst (-1), 1) := by decide +kernel
theorem dL_refuses_131 : dec mL_refuses 131 = .ok (.iload_n 1, 1) := by decide +kernel
theorem dL_refuses_132 : dec mL_refuses 132 = .ok (.bipush 9, 2) := by decide +kernel
theorem dL_refuses_134 : dec mL_refuses 134 = .ok (.irem, 1) := by decide +kernel
theorem dL_refuses_135 : dec mL_refuses 135 = .ok (.isub, 1) := by decide +kernel
theorem dL_refuses_136 : dec mL_refuses 136 = .ok (.goto 11, 3) := by decide +kernel
theorem dL_refuses_139 : dec mL_refuses 139 = .ok (.sipush 256, 3) := by decide +kernel
theorem dL_refuses_142 : dec mL_refuses 142 = .ok (.iload_n 1, 1) := by decide +kernel
theorem dL_refuses_143 : dec mL_refuses 143 = .ok (.bipush 9, 2) := by decide +kernel
theorem dL_refuses_145 : dec mL_refuses 145 = .ok (.irem, 1) := by decide +kernel
theorem dL_refuses_146 : dec mL_refuses 146 = .ok (.iadd, 1) := by decide +kernel
theorem dL_refuses_147 : dec mL_refuses 147 = .ok (.iconst 0, 1) := by decide +kernel
theorem dL_refuses_148 : dec mL_refuses 148 = .ok (.iconst 0, 1) := by decide +kernel
theorem dL_refuses_149 : dec mL_refuses 149 = .ok (.invokestatic 168, 3) := by decide +kernel
theorem dL_refuses_152 : dec mL_refuses 152 = .ok (.ldc 22, 2) := by decide +kernel
theorem dL_refuses_154 : dec mL_refuses 154 = .ok (.if_icmp .ne 725, 3) := by decide +kernel
theorem dL_refuses_157 : dec mL_refuses 157 = .ok (.aload_n 0, 1) := by decide +kernel
theorem dL_refuses_158 : dec mL_refuses 158 = .ok (.iconst 2, 1) := by decide +kernel
theorem dL_refuses_159 : dec mL_refuses 159 = .ok (.bipush 11, 2) := by decide +kernel
theorem dL_refuses_161 : dec mL_refuses 161 = .ok (.iload_n 1, 1) := by decide +kernel
theorem dL_refuses_162 : dec mL_refuses 162 = .ok (.bipush 50, 2) := by decide +kernel
theorem dL_refuses_164 : dec mL_refuses 164 = .ok (.irem, 1) := by decide +kernel
theorem dL_refuses_165 : dec mL_refuses 165 = .ok (.iadd, 1) := by decide +kernel
theorem dL_refuses_166 : dec mL_refuses 166 = .ok (.iconst 0, 1) := by decide +kernel
theorem dL_refuses_167 : dec mL_refuses 167 = .ok (.iconst 0, 1) := by decide +kernel
theorem dL_refuses_168 : dec mL_refuses 168 = .ok (.invokestatic 168, 3) := by decide +kernel
theorem dL_refuses_171 : dec mL_refuses 171 = .ok (.ldc 22, 2) := by decide +kernel
theorem dL_refuses_173 : dec mL_refuses 173 = .ok (.if_icmp .ne 706, 3) := by decide +kernel
theorem dL_refuses_176 : dec mL_refuses 176 = .ok (.aload_n 0, 1) := by decide +kernel
theorem dL_refuses_177 : dec mL_refuses 177 = .ok (.iconst 3, 1) := by decide +kernel
theorem dL_refuses_178 : dec mL_refuses 178 = .ok (.iload 6, 2) := by decide +kernel
theorem dL_refuses_180 : dec mL_refuses 180 = .ok (.iconst 0, 1) := by decide +kernel
theorem dL_refuses_181 : dec mL_refuses 181 = .ok (.bipush 9, 2) := by decide +kernel
theorem dL_refuses_183 : dec mL_refuses 183 = .ok (.invokestatic 168, 3) := by decide +kernel
theorem dL_refuses_186 : dec mL_refuses 186 = .ok (.ldc 15, 2) := by decide +kernel
theorem dL_refuses_188 : dec mL_refuses 188 = .ok (.if_icmp .ne 691, 3) := by decide +kernel
theorem dL_refuses_191 : dec mL_refuses 191 = .ok (.aload_n 0, 1) := by decide +kernel
theorem dL_refuses_192 : dec mL_refuses 192 = .ok (.iconst 3, 1) := by decide +kernel
theorem dL_refuses_193 : dec mL_refuses 193 = .ok (.iconst 0, 1) := by decide +kernel
theorem dL_refuses_194 : dec mL_refuses 194 = .ok (.iload 7, 2) := by decide +kernel
theorem dL_refuses_196 : dec mL_refuses 196 = .ok (.bipush 9, 2) := by decide +kernel
theorem dL_refuses_198 : dec mL_refuses 198 = .ok (.invokestatic 168, 3) := by decide +kernel
theorem dL_refuses_201 : dec mL_refuses 201 = .ok (.ldc 15, 2) := by decide +kernel
theorem dL_refuses_203 : dec mL_refuses 203 = .ok (.if_icmp .ne 676, 3) := by decide +kernel
theorem dL_refuses_206 : dec mL_refuses 206 = .ok (.aload_n 0, 1) := by decide +kernel
theorem dL_refuses_207 : dec mL_refuses 207 = .ok (.iconst 3, 1) := by decide +kernel
theorem dL_refuses_208 : dec mL_refuses 208 = .ok (.iload_n 1, 1) := by decide +kernel
theorem dL_refuses_209 : dec mL_refuses 209 = .ok (.iload_n 3, 1) := by decide +kernel
theorem dL_refuses_210 : dec mL_refuses 210 = .ok (.irem, 1) := by decide +kernel
theorem dL_refuses_211 : dec mL_refuses 211 = .ok (.iload_n 1, 1) := by decide +kernel
theorem dL_refuses_212 : dec mL_refuses 212 = .ok (.iload 4, 2) := by decide +kernel
theorem dL_refuses_214 : dec mL_refuses 214 = .ok (.irem, 1) := by decide +kernel
theorem dL_refuses_215 : dec mL_refuses 215 = .ok (.iconst 5, 1) := by decide +kernel
theorem dL_refuses_216 : dec mL_refuses 216 = .ok (.iload_n 1, 1) := by decide +kernel
theorem dL_refuses_217 : dec mL_refuses 217 = .ok (.bipush 9, 2) := by decide +kernel
theorem dL_refuses_219 : dec mL_refuses 219 = .ok (.irem, 1) := by decide +kernel
theorem dL_refuses_220 : dec mL_refuses 220 = .ok (.iadd, 1) := by decide +kernel
theorem dL_refuses_221 : dec mL_refuses 221 = .ok (.invokestatic 168, 3) := by decide +kernel
theorem dL_refuses_224 : dec mL_refuses 224 = .ok (.ldc 22, 2) := by decide +kernel
theorem dL_refuses_226 : dec mL_refuses 226 = .ok (.if_icmp .ne 653, 3) := by decide +kernel
theorem dL_refuses_229 : dec mL_refuses 229 = .ok (.aload_n 0, 1) := by decide +kernel
theorem dL_refuses_230 : dec mL_refuses 230 = .ok (.iconst 4, 1) := by decide +kernel
theorem dL_refuses_231 : dec mL_refuses 231 = .ok (.iload 5, 2) := by decide +kernel
theorem dL_refuses_233 : dec mL_refuses 233 = .ok (.bipush 99, 2) := by decide +kernel
theorem dL_refuses_235 : dec mL_refuses 235 = .ok (.iconst 0, 1) := by decide +kernel
theorem dL_refuses_236 : dec mL_refuses 236 = .ok (.invokestatic 168, 3) := by decide +kernel
theorem dL_refuses_239 : dec mL_refuses 239 = .ok (.ldc 15, 2) := by decide +kernel
theorem dL_refuses_241 : dec mL_refuses 241 = .ok (.if_icmp .ne 638, 3) := by decide +kernel
theorem dL_refuses_244 : dec mL_refuses 244 = .ok (.aload_n 0, 1) := by decide +kernel
theorem dL_refuses_245 : dec mL_refuses 245 = .ok (.iconst 4, 1) := by decide +kernel
theorem dL_refuses_246 : dec mL_refuses 246 = .ok (.iload_n 1, 1) := by decide +kernel
theorem dL_refuses_247 : dec mL_refuses 247 = .ok (.iload_n 2, 1) := by decide +kernel
theorem dL_refuses_248 : dec mL_refuses 248 = .ok (.irem, 1) := by decide +kernel
theorem dL_refuses_249 : dec mL_refuses 249 = .ok (.bipush 7, 2) := by decide +kernel
theorem dL_refuses_251 : dec mL_refuses 251 = .ok (.iload_n 1, 1) := by decide +kernel
theorem dL_refuses_252 : dec mL_refuses 252 = .ok (.bipush 9, 2) := by decide +kernel
theorem dL_refuses_254 : dec mL_refuses 254 = .ok (.irem, 1) := by decide +kernel
theorem dL_refuses_255 : dec mL_refuses 255 = .ok (.iadd, 1) := by decide +kernel
theorem dL_refuses_256 : dec mL_refuses 256 = .ok (.iconst 0, 1) := by decide +kernel
theorem dL_refuses_257 : dec mL_refuses 257 = .ok (.invokestatic 168, 3) := by decide +kernel
theorem dL_refuses_260 : dec mL_refuses 260 = .ok (.ldc 22, 2) := by decide +kernel
theorem dL_refuses_262 : dec mL_refuses 262 = .ok (.if_icmp .ne 617, 3) := by decide +kernel
theorem dL_refuses_265 : dec mL_refuses 265 = .ok (.aload_n 0, 1) := by decide +kernel
theorem dL_refuses_266 : dec mL_refuses 266 = .ok (.iconst 5, 1) := by decide +kernel
theorem dL_refuses_267 : dec mL_refuses 267 = .ok (.iload 5, 2) := by decide +kernel
theorem dL_refuses_269 : dec mL_refuses 269 = .ok (.bipush 99, 2) := by decide +kernel
theorem dL_refuses_271 : dec mL_refuses 271 = .ok (.iconst 0, 1) := by decide +kernel
theorem dL_refuses_272 : dec mL_refuses 272 = .ok (.invokestatic 168, 3) := by decide +kernel
theorem dL_refuses_275 : dec mL_refuses 275 = .ok (.ldc 15, 2) := by decide +kernel
theorem dL_refuses_277 : dec mL_refuses 277 = .ok (.if_icmp .ne 602, 3) := by decide +kernel
theorem dL_refuses_280 : dec mL_refuses 280 = .ok (.aload_n 0, 1) := by decide +kernel
theorem dL_refuses_281 : dec mL_refuses 281 = .ok (.iconst 5, 1) := by decide +kernel
theorem dL_refuses_282 : dec mL_refuses 282 = .ok (.iload_n 1, 1) := by decide +kernel
theorem dL_refuses_283 : dec mL_refuses 283 = .ok (.iload_n 2, 1) := by decide +kernel
theorem dL_refuses_284 : dec mL_refuses 284 = .ok (.irem, 1) := by decide +kernel
theorem dL_refuses_285 : dec mL_refuses 285 = .ok (.iconst 3, 1) := by decide +kernel
theorem dL_refuses_286 : dec mL_refuses 286 = .ok (.iload_n 1, 1) := by decide +kernel
theorem dL_refuses_287 : dec mL_refuses 287 = .ok (.bipush 9, 2) := by decide +kernel
theorem dL_refuses_289 : dec mL_refuses 289 = .ok (.irem, 1) := by decide +kernel
theorem dL_refuses_290 : dec mL_refuses 290 = .ok (.iadd, 1) := by decide +kernel
theorem dL_refuses_291 : dec mL_refuses 291 = .ok (.iconst 0, 1) := by decide +kernel
theorem dL_refuses_292 : dec mL_refuses 292 = .ok (.invokestatic 168, 3) := by decide +kernel
theorem dL_refuses_295 : dec mL_refuses 295 = .ok (.ldc 22, 2) := by decide +kernel
theorem dL_refuses_297 : dec mL_refuses 297 = .ok (.if_icmp .ne 582, 3) := by decide +kernel
theorem dL_refuses_300 : dec mL_refuses 300 = .ok (.aload_n 0, 1) := by decide +kernel
theorem dL_refuses_301 : dec mL_refuses 301 = .ok (.bipush 6, 2) := by decide +kernel
theorem dL_refuses_303 : dec mL_refuses 303 = .ok (.iload_n 1, 1) := by decide +kernel
theorem dL_refuses_304 : dec mL_refuses 304 = .ok (.iconst 2, 1) := by decide +kernel
theorem dL_refuses_305 : dec mL_refuses 305 = .ok (.irem, 1) := by decide +kernel
theorem dL_refuses_306 : dec mL_refuses 306 = .ok (.ifCond .ne 7, 3) := by decide +kernel
theorem dL_refuses_309 : dec mL_refuses 309 = .ok (.iconst 1, 1) := by decide +kernel
theorem dL_refuses_310 : dec mL_refuses 310 = .ok (.goto 10, 3) := by decide +kernel
theorem dL_refuses_313 : dec mL_refuses 313 = .ok (.bipush 7, 2) := by decide +kernel
theorem dL_refuses_315 : dec mL_refuses 315 = .ok (.iload_n 1, 1) := by decide +kernel
theorem dL_refuses_316 : dec mL_refuses 316 = .ok (.bipush 9, 2) := by decide +kernel
theorem dL_refuses_318 : dec mL_refuses 318 = .ok (.irem, 1) := by decide +kernel
theorem dL_refuses_319 : dec mL_refuses 319 = .ok (.iadd, 1) := by decide +kernel
theorem dL_refuses_320 : dec mL_refuses 320 = .ok (.iconst 1, 1) := by decide +kernel
theorem dL_refuses_321 : dec mL_refuses 321 = .ok (.iconst 0, 1) := by decide +kernel
theorem dL_refuses_322 : dec mL_refuses 322 = .ok (.invokestatic 168, 3) := by decide +kernel
theorem dL_refuses_325 : dec mL_refuses 325 = .ok (.ldc 22, 2) := by decide +kernel
theorem dL_refuses_327 : dec mL_refuses 327 = .ok (.if_icmp .ne 552, 3) := by decide +kernel
theorem dL_refuses_330 : dec mL_refuses 330 = .ok (.aload_n 0, 1) := by decide +kernel
theorem dL_refuses_331 : dec mL_refuses 331 = .ok (.bipush 6, 2) := by decide +kernel
theorem dL_refuses_333 : dec mL_refuses 333 = .ok (.iconst 2, 1) := by decide +kernel
theorem dL_refuses_334 : dec mL_refuses 334 = .ok (.iload_n 1, 1) := by decide +kernel
theorem dL_refuses_335 : dec mL_refuses 335 = .ok (.iconst 2, 1) := by decide +kernel
theorem dL_refuses_336 : dec mL_refuses 336 = .ok (.irem, 1) := by decide +kernel
theorem dL_refuses_337 : dec mL_refuses 337 = .ok (.ifCond .ne 7, 3) := by decide +kernel
theorem dL_refuses_340 : dec mL_refuses 340 = .ok (.iconst 0, 1) := by decide +kernel
theorem dL_refuses_341 : dec mL_refuses 341 = .ok (.goto 9, 3) := by decide +kernel
theorem dL_refuses_344 : dec mL_refuses 344 = .ok (.iconst 3, 1) := by decide +kernel
theorem dL_refuses_345 : dec mL_refuses 345 = .ok (.iload_n 1, 1) := by decide +kernel
theorem dL_refuses_346 : dec mL_refuses 346 = .ok (.bipush 9, 2) := by decide +kernel
theorem dL_refuses_348 : dec mL_refuses 348 = .ok (.irem, 1) := by decide +kernel
theorem dL_refuses_349 : dec mL_refuses 349 = .ok (.iadd, 1) := by decide +kernel
theorem dL_refuses_350 : dec mL_refuses 350 = .ok (.iconst 0, 1) := by decide +kernel
theorem dL_refuses_351 : dec mL_refuses 351 = .ok (.invokestatic 168, 3) := by decide +kernel
theorem dL_refuses_354 : dec mL_refuses 354 = .ok (.ldc 22, 2) := by decide +kernel
theorem dL_refuses_356 : dec mL_refuses 356 = .ok (.if_icmp .ne 523, 3) := by decide +kernel
theorem dL_refuses_359 : dec mL_refuses 359 = .ok (.aload_n 0, 1) := by decide +kernel
theorem dL_refuses_360 : dec mL_refuses 360 = .ok (.bipush 7, 2) := by decide +kernel
theorem dL_refuses_362 : dec mL_refuses 362 = .ok (.iload 6, 2) := by decide +kernel
theorem dL_refuses_364 : dec mL_refuses 364 = .ok (.iconst 0, 1) := by decide +kernel
theorem dL_refuses_365 : dec mL_refuses 365 = .ok (.iload 8, 2) := by decide +kernel
theorem dL_refuses_367 : dec mL_refuses 367 = .ok (.invokestatic 168, 3) := by decide +kernel
theorem dL_refuses_370 : dec mL_refuses 370 = .ok (.ldc 15, 2) := by decide +kernel
theorem dL_refuses_372 : dec mL_refuses 372 = .ok (.if_icmp .ne 507, 3) := by decide +kernel
theorem dL_refuses_375 : dec mL_refuses 375 = .ok (.aload_n 0, 1) := by decide +kernel
theorem dL_refuses_376 : dec mL_refuses 376 = .ok (.bipush 7, 2) := by decide +kernel
theorem dL_refuses_378 : dec mL_refuses 378 = .ok (.iconst 0, 1) := by decide +kernel
theorem dL_refuses_379 : dec mL_refuses 379 = .ok (.iload 7, 2) := by decide +kernel
theorem dL_refuses_381 : dec mL_refuses 381 = .ok (.iload 8, 2) := by decide +kernel
theorem dL_refuses_383 : dec mL_refuses 383 = .ok (.invokestatic 168, 3) := by decide +kernel
theorem dL_refuses_386 : dec mL_refuses 386 = .ok (.ldc 15, 2) := by decide +kernel
theorem dL_refuses_388 : dec mL_refuses 388 = .ok (.if_icmp .ne 491, 3) := by decide +kernel
theorem dL_refuses_391 : dec mL_refuses 391 = .ok (.aload_n 0, 1) := by decide +kernel
theorem dL_refuses_392 : dec mL_refuses 392 = .ok (.bipush 7, 2) := by decide +kernel
theorem dL_refuses_394 : dec mL_refuses 394 = .ok (.iload_n 1, 1) := by decide +kernel
theorem dL_refuses_395 : dec mL_refuses 395 = .ok (.iload_n 3, 1) := by decide +kernel
theorem dL_refuses_396 : dec mL_refuses 396 = .ok (.irem, 1) := by decide +kernel
theorem dL_refuses_397 : dec mL_refuses 397 = .ok (.iload_n 1, 1) := by decide +kernel
theorem dL_refuses_398 : dec mL_refuses 398 = .ok (.iload 4, 2) := by decide +kernel
theorem dL_refuses_400 : dec mL_refuses 400 = .ok (.irem, 1) := by decide +kernel
theorem dL_refuses_401 : dec mL_refuses 401 = .ok (.iload 8, 2) := by decide +kernel
theorem dL_refuses_403 : dec mL_refuses 403 = .ok (.invokestatic 168, 3) := by decide +kernel
theorem dL_refuses_406 : dec mL_refuses 406 = .ok (.ldc 22, 2) := by decide +kernel
theorem dL_refuses_408 : dec mL_refuses 408 = .ok (.if_icmp .ne 471, 3) := by decide +kernel
theorem dL_refuses_411 : dec mL_refuses 411 = .ok (.aload_n 0, 1) := by decide +kernel
theorem dL_refuses_412 : dec mL_refuses 412 = .ok (.bipush 8, 2) := by decide +kernel
theorem dL_refuses_414 : dec mL_refuses 414 = .ok (.iload 8, 2) := by decide +kernel
theorem dL_refuses_416 : dec mL_refuses 416 = .ok (.iconst 0, 1) := by decide +kernel
theorem dL_refuses_417 : dec mL_refuses 417 = .ok (.iconst 0, 1) := by decide +kernel
theorem dL_refuses_418 : dec mL_refuses 418 = .ok (.invokestatic 168, 3) := by decide +kernel
theorem dL_refuses_421 : dec mL_refuses 421 = .ok (.ldc 22, 2) := by decide +kernel
theorem dL_refuses_423 : dec mL_refuses 423 = .ok (.if_icmp .ne 456, 3) := by decide +kernel
theorem dL_refuses_426 : dec mL_refuses 426 = .ok (.aload_n 0, 1) := by decide +kernel
theorem dL_refuses_427 : dec mL_refuses 427 = .ok (.bipush 8, 2) := by decide +kernel
theorem dL_refuses_429 : dec mL_refuses 429 = .ok (.iconst 0, 1) := by decide +kernel
theorem dL_refuses_430 : dec mL_refuses 430 = .ok (.iload 8, 2) := by decide +kernel
theorem dL_refuses_432 : dec mL_refuses 432 = .ok (.iconst 0, 1) := by decide +kernel
theorem dL_refuses_433 : dec mL_refuses 433 = .ok (.invokestatic 168, 3) := by decide +kernel
theorem dL_refuses_436 : dec mL_refuses 436 = .ok (.ldc 22, 2) := by decide +kernel
theorem dL_refuses_438 : dec mL_refuses 438 = .ok (.if_icmp .ne 441, 3) := by decide +kernel
theorem dL_refuses_441 : dec mL_refuses 441 = .ok (.aload_n 0, 1) := by decide +kernel
theorem dL_refuses_442 : dec mL_refuses 442 = .ok (.bipush 9, 2) := by decide +kernel
theorem dL_refuses_444 : dec mL_refuses 444 = .ok (.iload 5, 2) := by decide +kernel
theorem dL_refuses_446 : dec mL_refuses 446 = .ok (.iconst 0, 1) := by decide +kernel
theorem dL_refuses_447 : dec mL_refuses 447 = .ok (.iconst 0, 1) := by decide +kernel
theorem dL_refuses_448 : dec mL_refuses 448 = .ok (.invokestatic 168, 3) := by decide +kernel
theorem dL_refuses_451 : dec mL_refuses 451 = .ok (.ldc 15, 2) := by decide +kernel
theorem dL_refuses_453 : dec mL_refuses 453 = .ok (.if_icmp .ne 426, 3) := by decide +kernel
theorem dL_refuses_456 : dec mL_refuses 456 = .ok (.aload_n 0, 1) := by decide +kernel
theorem dL_refuses_457 : dec mL_refuses 457 = .ok (.bipush 10, 2) := by decide +kernel
theorem dL_refuses_459 : dec mL_refuses 459 = .ok (.iload 5, 2) := by decide +kernel
theorem dL_refuses_461 : dec mL_refuses 461 = .ok (.iload 5, 2) := by decide +kernel
theorem dL_refuses_463 : dec mL_refuses 463 = .ok (.iconst 0, 1) := by decide +kernel
theorem dL_refuses_464 : dec mL_refuses 464 = .ok (.invokestatic 168, 3) := by decide +kernel
theorem dL_refuses_467 : dec mL_refuses 467 = .ok (.ldc 15, 2) := by decide +kernel
theorem dL_refuses_469 : dec mL_refuses 469 = .ok (.if_icmp .ne 410, 3) := by decide +kernel
theorem dL_refuses_472 : dec mL_refuses 472 = .ok (.aload_n 0, 1) := by decide +kernel
theorem dL_refuses_473 : dec mL_refuses 473 = .ok (.bipush 10, 2) := by decide +kernel
theorem dL_refuses_475 : dec mL_refuses 475 = .ok (.iload_n 1, 1) := by decide +kernel
theorem dL_refuses_476 : dec mL_refuses 476 = .ok (.iload_n 2, 1) := by decide +kernel
theorem dL_refuses_477 : dec mL_refuses 477 = .ok (.irem, 1) := by decide +kernel
theorem dL_refuses_478 : dec mL_refuses 478 = .ok (.iload_n 1, 1) := by decide +kernel
theorem dL_refuses_479 : dec mL_refuses 479 = .ok (.iload_n 2, 1) := by decide +kernel
theorem dL_refuses_480 : dec mL_refuses 480 = .ok (.irem, 1) := by decide +kernel
theorem dL_refuses_481 : dec mL_refuses 481 = .ok (.iconst 0, 1) := by decide +kernel
theorem dL_refuses_482 : dec mL_refuses 482 = .ok (.invokestatic 168, 3) := by decide +kernel
theorem dL_refuses_485 : dec mL_refuses 485 = .ok (.ldc 22, 2) := by decide +kernel
theorem dL_refuses_487 : dec mL_refuses 487 = .ok (.if_icmp .ne 392, 3) := by decide +kernel
theorem dL_refuses_490 : dec mL_refuses 490 = .ok (.aload_n 0, 1) := by decide +kernel
theorem dL_refuses_491 : dec mL_refuses 491 = .ok (.bipush 10, 2) := by decide +kernel
theorem dL_refuses_493 : dec mL_refuses 493 = .ok (.iconst 0, 1) := by decide +kernel
theorem dL_refuses_494 : dec mL_refuses 494 = .ok (.iload 5, 2) := by decide +kernel
theorem dL_refuses_496 : dec mL_refuses 496 = .ok (.iconst 0, 1) := by decide +kernel
theorem dL_refuses_497 : dec mL_refuses 497 = .ok (.invokestatic 168, 3) := by decide +kernel
theorem dL_refuses_500 : dec mL_refuses 500 = .ok (.ldc 15, 2) := by decide +kernel
theorem dL_refuses_502 : dec mL_refuses 502 = .ok (.if_icmp .ne 377, 3) := by decide +kernel
theorem dL_refuses_505 : dec mL_refuses 505 = .ok (.aload_n 0, 1) := by decide +kernel
theorem dL_refuses_506 : dec mL_refuses 506 = .ok (.bipush 11, 2) := by decide +kernel
theorem dL_refuses_508 : dec mL_refuses 508 = .ok (.iload 6, 2) := by decide +kernel
theorem dL_refuses_510 : dec mL_refuses 510 = .ok (.iconst 0, 1) := by decide +kernel
theorem dL_refuses_511 : dec mL_refuses 511 = .ok (.iconst 0, 1) := by decide +kernel
theorem dL_refuses_512 : dec mL_refuses 512 = .ok (.invokestatic 168, 3) := by decide +kernel
theorem dL_refuses_515 : dec mL_refuses 515 = .ok (.ldc 15, 2) := by decide +kernel
theorem dL_refuses_517 : dec mL_refuses 517 = .ok (.if_icmp .ne 362, 3) := by decide +kernel
theorem dL_refuses_520 : dec mL_refuses 520 = .ok (.aload_n 0, 1) := by decide +kernel
theorem dL_refuses_521 : dec mL_refuses 521 = .ok (.bipush 11, 2) := by decide +kernel
theorem dL_refuses_523 : dec mL_refuses 523 = .ok (.iconst 0, 1) := by decide +kernel
theorem dL_refuses_524 : dec mL_refuses 524 = .ok (.iload 7, 2) := by decide +kernel
theorem dL_refuses_526 : dec mL_refuses 526 = .ok (.iconst 0, 1) := by decide +kernel
theorem dL_refuses_527 : dec mL_refuses 527 = .ok (.invokestatic 168, 3) := by decide +kernel
theorem dL_refuses_530 : dec mL_refuses 530 = .ok (.ldc 15, 2) := by decide +kernel
theorem dL_refuses_532 : dec mL_refuses 532 = .ok (.if_icmp .ne 347, 3) := by decide +kernel
theorem dL_refuses_535 : dec mL_refuses 535 = .ok (.aload_n 0, 1) := by decide +kernel
theorem dL_refuses_536 : dec mL_refuses 536 = .ok (.bipush 11, 2) := by decide +kernel
theorem dL_refuses_538 : dec mL_refuses 538 = .ok (.iload_n 3, 1) := by decide +kernel
theorem dL_refuses_539 : dec mL_refuses 539 = .ok (.iconst 1, 1) := by decide +kernel
theorem dL_refuses_540 : dec mL_refuses 540 = .ok (.isub, 1) := by decide +kernel
theorem dL_refuses_541 : dec mL_refuses 541 = .ok (.iload_n 1, 1) := by decide +kernel
theorem dL_refuses_542 : dec mL_refuses 542 = .ok (.iload 4, 2) := by decide +kernel
theorem dL_refuses_544 : dec mL_refuses 544 = .ok (.irem, 1) := by decide +kernel
theorem dL_refuses_545 : dec mL_refuses 545 = .ok (.iconst 0, 1) := by decide +kernel
theorem dL_refuses_546 : dec mL_refuses 546 = .ok (.invokestatic 168, 3) := by decide +kernel
theorem dL_refuses_549 : dec mL_refuses 549 = .ok (.ldc 33, 2) := by decide +kernel
theorem dL_refuses_551 : dec mL_refuses 551 = .ok (.if_icmp .ne 328, 3) := by decide +kernel
theorem dL_refuses_554 : dec mL_refuses 554 = .ok (.aload_n 0, 1) := by decide +kernel
theorem dL_refuses_555 : dec mL_refuses 555 = .ok (.bipush 11, 2) := by decide +kernel
theorem dL_refuses_557 : dec mL_refuses 557 = .ok (.iload_n 1, 1) := by decide +kernel
theorem dL_refuses_558 : dec mL_refuses 558 = .ok (.iload_n 3, 1) := by decide +kernel
theorem dL_refuses_559 : dec mL_refuses 559 = .ok (.irem, 1) := by decide +kernel
theorem dL_refuses_560 : dec mL_refuses 560 = .ok (.iload 4, 2) := by decide +kernel
theorem dL_refuses_562 : dec mL_refuses 562 = .ok (.iconst 1, 1) := by decide +kernel
theorem dL_refuses_563 : dec mL_refuses 563 = .ok (.isub, 1) := by decide +kernel
theorem dL_refuses_564 : dec mL_refuses 564 = .ok (.iconst 0, 1) := by decide +kernel
theorem dL_refuses_565 : dec mL_refuses 565 = .ok (.invokestatic 168, 3) := by decide +kernel
theorem dL_refuses_568 : dec mL_refuses 568 = .ok (.ldc 33, 2) := by decide +kernel
theorem dL_refuses_570 : dec mL_refuses 570 = .ok (.if_icmp .ne 309, 3) := by decide +kernel
theorem dL_refuses_573 : dec mL_refuses 573 = .ok (.aload_n 0, 1) := by decide +kernel
theorem dL_refuses_574 : dec mL_refuses 574 = .ok (.iload 5, 2) := by decide +kernel
theorem dL_refuses_576 : dec mL_refuses 576 = .ok (.iconst 1, 1) := by decide +kernel
theorem dL_refuses_577 : dec mL_refuses 577 = .ok (.invokestatic 172, 3) := by decide +kernel
theorem dL_refuses_580 : dec mL_refuses 580 = .ok (.ldc 15, 2) := by decide +kernel
theorem dL_refuses_582 : dec mL_refuses 582 = .ok (.if_icmp .ne 297, 3) := by decide +kernel
theorem dL_refuses_585 : dec mL_refuses 585 = .ok (.aload_n 0, 1) := by decide +kernel
theorem dL_refuses_586 : dec mL_refuses 586 = .ok (.bipush 12, 2) := by decide +kernel
theorem dL_refuses_588 : dec mL_refuses 588 = .ok (.iload_n 1, 1) := by decide +kernel
theorem dL_refuses_589 : dec mL_refuses 589 = .ok (.iconst 2, 1) := by decide +kernel
theorem dL_refuses_590 : dec mL_refuses 590 = .ok (.irem, 1) := by decide +kernel
theorem dL_refuses_591 : dec mL_refuses 591 = .ok (.ifCond .ne 7, 3) := by decide +kernel
theorem dL_refuses_594 : dec mL_refuses 594 = .ok (.iconst 0, 1) := by decide +kernel
theorem dL_refuses_595 : dec mL_refuses 595 = .ok (.goto 10, 3) := by decide +kernel
theorem dL_refuses_598 : dec mL_refuses 598 = .ok (.bipush 21, 2) := by decide +kernel
theorem dL_refuses_600 : dec mL_refuses 600 = .ok (.iload_n 1, 1) := by decide +kernel
theorem dL_refuses_601 : dec mL_refuses 601 = .ok (.bipush 9, 2) := by decide +kernel
theorem dL_refuses_603 : dec mL_refuses 603 = .ok (.irem, 1) := by decide +kernel
theorem dL_refuses_604 : dec mL_refuses 604 = .ok (.iadd, 1) := by decide +kernel
theorem dL_refuses_605 : dec mL_refuses 605 = .ok (.iconst 0, 1) := by decide +kernel
theorem dL_refuses_606 : dec mL_refuses 606 = .ok (.iconst 0, 1) := by decide +kernel
theorem dL_refuses_607 : dec mL_refuses 607 = .ok (.invokestatic 168, 3) := by decide +kernel
theorem dL_refuses_610 : dec mL_refuses 610 = .ok (.ldc 22, 2) := by decide +kernel
theorem dL_refuses_612 : dec mL_refuses 612 = .ok (.if_icmp .ne 267, 3) := by decide +kernel
theorem dL_refuses_615 : dec mL_refuses 615 = .ok (.aload_n 0, 1) := by decide +kernel
theorem dL_refuses_616 : dec mL_refuses 616 = .ok (.bipush 14, 2) := by decide +kernel
theorem dL_refuses_618 : dec mL_refuses 618 = .ok (.iload_n 1, 1) := by decide +kernel
theorem dL_refuses_619 : dec mL_refuses 619 = .ok (.iconst 2, 1) := by decide +kernel
theorem dL_refuses_620 : dec mL_refuses 620 = .ok (.irem, 1) := by decide +kernel
theorem dL_refuses_621 : dec mL_refuses 621 = .ok (.ifCond .ne 12, 3) := by decide +kernel
theorem dL_refuses_624 : dec mL_refuses 624 = .ok (.iconst (-1), 1) := by decide +kernel
theorem dL_refuses_625 : dec mL_refuses 625 = .ok (.iload_n 1, 1) := by decide +kernel
theorem dL_refuses_626 : dec mL_refuses 626 = .ok (.bipush 99, 2) := by decide +kernel
theorem dL_refuses_628 : dec mL_refuses 628 = .ok (.irem, 1) := by decide +kernel
theorem dL_refuses_629 : dec mL_refuses 629 = .ok (.isub, 1) := by decide +kernel
theorem dL_refuses_630 : dec mL_refuses 630 = .ok (.goto 11, 3) := by decide +kernel
theorem dL_refuses_633 : dec mL_refuses 633 = .ok (.sipush 30000, 3) := by decide +kernel
theorem dL_refuses_636 : dec mL_refuses 636 = .ok (.iload_n 1, 1) := by decide +kernel
theorem dL_refuses_637 : dec mL_refuses 637 = .ok (.bipush 99, 2) := by decide +kernel
theorem dL_refuses_639 : dec mL_refuses 639 = .ok (.irem, 1) := by decide +kernel
theorem dL_refuses_640 : dec mL_refuses 640 = .ok (.iadd, 1) := by decide +kernel
theorem dL_refuses_641 : dec mL_refuses 641 = .ok (.iconst 0, 1) := by decide +kernel
theorem dL_refuses_642 : dec mL_refuses 642 = .ok (.iconst 0, 1) := by decide +kernel
theorem dL_refuses_643 : dec mL_refuses 643 = .ok (.invokestatic 168, 3) := by decide +kernel
theorem dL_refuses_646 : dec mL_refuses 646 = .ok (.ldc 22, 2) := by decide +kernel
theorem dL_refuses_648 : dec mL_refuses 648 = .ok (.if_icmp .ne 231, 3) := by decide +kernel
theorem dL_refuses_651 : dec mL_refuses 651 = .ok (.aload_n 0, 1) := by decide +kernel
theorem dL_refuses_652 : dec mL_refuses 652 = .ok (.bipush 14, 2) := by decide +kernel
theorem dL_refuses_654 : dec mL_refuses 654 = .ok (.iload_n 2, 1) := by decide +kernel
theorem dL_refuses_655 : dec mL_refuses 655 = .ok (.iload_n 1, 1) := by decide +kernel
theorem dL_refuses_656 : dec mL_refuses 656 = .ok (.sipush 900, 3) := by decide +kernel
theorem dL_refuses_659 : dec mL_refuses 659 = .ok (.irem, 1) := by decide +kernel
theorem dL_refuses_660 : dec mL_refuses 660 = .ok (.iadd, 1) := by decide +kernel
theorem dL_refuses_661 : dec mL_refuses 661 = .ok (.iconst 0, 1) := by decide +kernel
theorem dL_refuses_662 : dec mL_refuses 662 = .ok (.iconst 0, 1) := by decide +kernel
theorem dL_refuses_663 : dec mL_refuses 663 = .ok (.invokestatic 168, 3) := by decide +kernel
theorem dL_refuses_666 : dec mL_refuses 666 = .ok (.ldc 22, 2) := by decide +kernel
theorem dL_refuses_668 : dec mL_refuses 668 = .ok (.if_icmp .ne 211, 3) := by decide +kernel
theorem dL_refuses_671 : dec mL_refuses 671 = .ok (.aload_n 0, 1) := by decide +kernel
theorem dL_refuses_672 : dec mL_refuses 672 = .ok (.bipush 14, 2) := by decide +kernel
theorem dL_refuses_674 : dec mL_refuses 674 = .ok (.sipush 10000, 3) := by decide +kernel
theorem dL_refuses_677 : dec mL_refuses 677 = .ok (.bipush 101, 2) := by decide +kernel
theorem dL_refuses_679 : dec mL_refuses 679 = .ok (.iload_n 1, 1) := by decide +kernel
theorem dL_refuses_680 : dec mL_refuses 680 = .ok (.iload_n 2, 1) := by decide +kernel
theorem dL_refuses_681 : dec mL_refuses 681 = .ok (.irem, 1) := by decide +kernel
theorem dL_refuses_682 : dec mL_refuses 682 = .ok (.imul, 1) := by decide +kernel
theorem dL_refuses_683 : dec mL_refuses 683 = .ok (.iadd, 1) := by decide +kernel
theorem dL_refuses_684 : dec mL_refuses 684 = .ok (.iconst 0, 1) := by decide +kernel
theorem dL_refuses_685 : dec mL_refuses 685 = .ok (.iconst 0, 1) := by decide +kernel
theorem dL_refuses_686 : dec mL_refuses 686 = .ok (.invokestatic 168, 3) := by decide +kernel
theorem dL_refuses_689 : dec mL_refuses 689 = .ok (.ldc 22, 2) := by decide +kernel
theorem dL_refuses_691 : dec mL_refuses 691 = .ok (.if_icmp .ne 188, 3) := by decide +kernel
theorem dL_refuses_694 : dec mL_refuses 694 = .ok (.aload_n 0, 1) := by decide +kernel
theorem dL_refuses_695 : dec mL_refuses 695 = .ok (.bipush 15, 2) := by decide +kernel
theorem dL_refuses_697 : dec mL_refuses 697 = .ok (.iconst 2, 1) := by decide +kernel
theorem dL_refuses_698 : dec mL_refuses 698 = .ok (.iload_n 1, 1) := by decide +kernel
theorem dL_refuses_699 : dec mL_refuses 699 = .ok (.bipush 9, 2) := by decide +kernel
theorem dL_refuses_701 : dec mL_refuses 701 = .ok (.irem, 1) := by decide +kernel
theorem dL_refuses_702 : dec mL_refuses 702 = .ok (.iadd, 1) := by decide +kernel
theorem dL_refuses_703 : dec mL_refuses 703 = .ok (.iconst 0, 1) := by decide +kernel
theorem dL_refuses_704 : dec mL_refuses 704 = .ok (.iconst 0, 1) := by decide +kernel
theorem dL_refuses_705 : dec mL_refuses 705 = .ok (.invokestatic 168, 3) := by decide +kernel
theorem dL_refuses_708 : dec mL_refuses 708 = .ok (.ldc 22, 2) := by decide +kernel
theorem dL_refuses_710 : dec mL_refuses 710 = .ok (.if_icmp .ne 169, 3) := by decide +kernel
theorem dL_refuses_713 : dec mL_refuses 713 = .ok (.aload_n 0, 1) := by decide +kernel
theorem dL_refuses_714 : dec mL_refuses 714 = .ok (.bipush 16, 2) := by decide +kernel
theorem dL_refuses_716 : dec mL_refuses 716 = .ok (.iload_n 1, 1) := by decide +kernel
theorem dL_refuses_717 : dec mL_refuses 717 = .ok (.iconst 2, 1) := by decide +kernel
theorem dL_refuses_718 : dec mL_refuses 718 = .ok (.irem, 1) := by decide +kernel
theorem dL_refuses_719 : dec mL_refuses 719 = .ok (.ifCond .ne 7, 3) := by decide +kernel
theorem dL_refuses_722 : dec mL_refuses 722 = .ok (.iconst 0, 1) := by decide +kernel
theorem dL_refuses_723 : dec mL_refuses 723 = .ok (.goto 10, 3) := by decide +kernel
theorem dL_refuses_726 : dec mL_refuses 726 = .ok (.bipush 21, 2) := by decide +kernel
theorem dL_refuses_728 : dec mL_refuses 728 = .ok (.iload_n 1, 1) := by decide +kernel
theorem dL_refuses_729 : dec mL_refuses 729 = .ok (.bipush 9, 2) := by decide +kernel
theorem dL_refuses_731 : dec mL_refuses 731 = .ok (.irem, 1) := by decide +kernel
theorem dL_refuses_732 : dec mL_refuses 732 = .ok (.iadd, 1) := by decide +kernel
theorem dL_refuses_733 : dec mL_refuses 733 = .ok (.iconst 0, 1) := by decide +kernel
theorem dL_refuses_734 : dec mL_refuses 734 = .ok (.iconst 0, 1) := by decide +kernel
theorem dL_refuses_735 : dec mL_refuses 735 = .ok (.invokestatic 168, 3) := by decide +kernel
theorem dL_refuses_738 : dec mL_refuses 738 = .ok (.ldc 22, 2) := by decide +kernel
theorem dL_refuses_740 : dec mL_refuses 740 = .ok (.if_icmp .ne 139, 3) := by decide +kernel
theorem dL_refuses_743 : dec mL_refuses 743 = .ok (.aload_n 0, 1) := by decide +kernel
theorem dL_refuses_744 : dec mL_refuses 744 = .ok (.bipush 16, 2) := by decide +kernel
theorem dL_refuses_746 : dec mL_refuses 746 = .ok (.iconst 1, 1) := by decide +kernel
theorem dL_refuses_747 : dec mL_refuses 747 = .ok (.iconst 2, 1) := by decide +kernel
theorem dL_refuses_748 : dec mL_refuses 748 = .ok (.iload_n 1, 1) := by decide +kernel
theorem dL_refuses_749 : dec mL_refuses 749 = .ok (.bipush 9, 2) := by decide +kernel
theorem dL_refuses_751 : dec mL_refuses 751 = .ok (.irem, 1) := by decide +kernel
theorem dL_refuses_752 : dec mL_refuses 752 = .ok (.iadd, 1) := by decide +kernel
theorem dL_refuses_753 : dec mL_refuses 753 = .ok (.iconst 0, 1) := by decide +kernel
theorem dL_refuses_754 : dec mL_refuses 754 = .ok (.invokestatic 168, 3) := by decide +kernel
theorem dL_refuses_757 : dec mL_refuses 757 = .ok (.ldc 22, 2) := by decide +kernel
theorem dL_refuses_759 : dec mL_refuses 759 = .ok (.if_icmp .ne 120, 3) := by decide +kernel
theorem dL_refuses_762 : dec mL_refuses 762 = .ok (.aload_n 0, 1) := by decide +kernel
theorem dL_refuses_763 : dec mL_refuses 763 = .ok (.bipush 17, 2) := by decide +kernel
theorem dL_refuses_765 : dec mL_refuses 765 = .ok (.iload 5, 2) := by decide +kernel
theorem dL_refuses_767 : dec mL_refuses 767 = .ok (.iconst 0, 1) := by decide +kernel
theorem dL_refuses_768 : dec mL_refuses 768 = .ok (.iconst 0, 1) := by decide +kernel
theorem dL_refuses_769 : dec mL_refuses 769 = .ok (.invokestatic 168, 3) := by decide +kernel
theorem dL_refuses_772 : dec mL_refuses 772 = .ok (.ldc 15, 2) := by decide +kernel
theorem dL_refuses_774 : dec mL_refuses 774 = .ok (.if_icmp .ne 105, 3) := by decide +kernel
theorem dL_refuses_777 : dec mL_refuses 777 = .ok (.aload_n 0, 1) := by decide +kernel
theorem dL_refuses_778 : dec mL_refuses 778 = .ok (.bipush 18, 2) := by decide +kernel
theorem dL_refuses_780 : dec mL_refuses 780 = .ok (.iload 5, 2) := by decide +kernel
theorem dL_refuses_782 : dec mL_refuses 782 = .ok (.iconst 0, 1) := by decide +kernel
theorem dL_refuses_783 : dec mL_refuses 783 = .ok (.iconst 0, 1) := by decide +kernel
theorem dL_refuses_784 : dec mL_refuses 784 = .ok (.invokestatic 168, 3) := by decide +kernel
theorem dL_refuses_787 : dec mL_refuses 787 = .ok (.ldc 15, 2) := by decide +kernel
theorem dL_refuses_789 : dec mL_refuses 789 = .ok (.if_icmp .ne 90, 3) := by decide +kernel
theorem dL_refuses_792 : dec mL_refuses 792 = .ok (.aload_n 0, 1) := by decide +kernel
theorem dL_refuses_793 : dec mL_refuses 793 = .ok (.bipush 19, 2) := by decide +kernel
theorem dL_refuses_795 : dec mL_refuses 795 = .ok (.iconst 2, 1) := by decide +kernel
theorem dL_refuses_796 : dec mL_refuses 796 = .ok (.iload_n 1, 1) := by decide +kernel
theorem dL_refuses_797 : dec mL_refuses 797 = .ok (.bipush 50, 2) := by decide +kernel
theorem dL_refuses_799 : dec mL_refuses 799 = .ok (.irem, 1) := by decide +kernel
theorem dL_refuses_800 : dec mL_refuses 800 = .ok (.iadd, 1) := by decide +kernel
theorem dL_refuses_801 : dec mL_refuses 801 = .ok (.iconst 0, 1) := by decide +kernel
theorem dL_refuses_802 : dec mL_refuses 802 = .ok (.iconst 0, 1) := by decide +kernel
theorem dL_refuses_803 : dec mL_refuses 803 = .ok (.invokestatic 168, 3) := by decide +kernel
theorem dL_refuses_806 : dec mL_refuses 806 = .ok (.ldc 15, 2) := by decide +kernel
theorem dL_refuses_808 : dec mL_refuses 808 = .ok (.if_icmp .ne 71, 3) := by decide +kernel
theorem dL_refuses_811 : dec mL_refuses 811 = .ok (.aload_n 0, 1) := by decide +kernel
theorem dL_refuses_812 : dec mL_refuses 812 = .ok (.bipush 20, 2) := by decide +kernel
theorem dL_refuses_814 : dec mL_refuses 814 = .ok (.iconst (-1), 1) := by decide +kernel
theorem dL_refuses_815 : dec mL_refuses 815 = .ok (.iload_n 1, 1) := by decide +kernel
theorem dL_refuses_816 : dec mL_refuses 816 = .ok (.bipush 9, 2) := by decide +kernel
theorem dL_refuses_818 : dec mL_refuses 818 = .ok (.irem, 1) := by decide +kernel
theorem dL_refuses_819 : dec mL_refuses 819 = .ok (.isub, 1) := by decide +kernel
theorem dL_refuses_820 : dec mL_refuses 820 = .ok (.iconst 0, 1) := by decide +kernel
theorem dL_refuses_821 : dec mL_refuses 821 = .ok (.iconst 0, 1) := by decide +kernel
theorem dL_refuses_822 : dec mL_refuses 822 = .ok (.invokestatic 168, 3) := by decide +kernel
theorem dL_refuses_825 : dec mL_refuses 825 = .ok (.ldc 15, 2) := by decide +kernel
theorem dL_refuses_827 : dec mL_refuses 827 = .ok (.if_icmp .ne 52, 3) := by decide +kernel
theorem dL_refuses_830 : dec mL_refuses 830 = .ok (.aload_n 0, 1) := by decide +kernel
theorem dL_refuses_831 : dec mL_refuses 831 = .ok (.iconst 0, 1) := by decide +kernel
theorem dL_refuses_832 : dec mL_refuses 832 = .ok (.lconst 0, 1) := by decide +kernel
theorem dL_refuses_833 : dec mL_refuses 833 = .ok (.invokestatic 176, 3) := by decide +kernel
theorem dL_refuses_836 : dec mL_refuses 836 = .ok (.ldc 22, 2) := by decide +kernel
theorem dL_refuses_838 : dec mL_refuses 838 = .ok (.if_icmp .ne 41, 3) := by decide +kernel
theorem dL_refuses_841 : dec mL_refuses 841 = .ok (.aload_n 0, 1) := by decide +kernel
theorem dL_refuses_842 : dec mL_refuses 842 = .ok (.iconst 1, 1) := by decide +kernel
theorem dL_refuses_843 : dec mL_refuses 843 = .ok (.ldc2_w 180, 3) := by decide +kernel
theorem dL_refuses_846 : dec mL_refuses 846 = .ok (.iload_n 1, 1) := by decide +kernel
theorem dL_refuses_847 : dec mL_refuses 847 = .ok (.i2l, 1) := by decide +kernel
theorem dL_refuses_848 : dec mL_refuses 848 = .ok (.ladd, 1) := by decide +kernel
theorem dL_refuses_849 : dec mL_refuses 849 = .ok (.invokestatic 176, 3) := by decide +kernel
theorem dL_refuses_852 : dec mL_refuses 852 = .ok (.ldc 22, 2) := by decide +kernel
theorem dL_refuses_854 : dec mL_refuses 854 = .ok (.if_icmp .ne 25, 3) := by decide +kernel
theorem dL_refuses_857 : dec mL_refuses 857 = .ok (.aload_n 0, 1) := by decide +kernel
theorem dL_refuses_858 : dec mL_refuses 858 = .ok (.iload_n 1, 1) := by decide +kernel
theorem dL_refuses_859 : dec mL_refuses 859 = .ok (.i2l, 1) := by decide +kernel
theorem dL_refuses_860 : dec mL_refuses 860 = .ok (.bipush 31, 2) := by decide +kernel
theorem dL_refuses_862 : dec mL_refuses 862 = .ok (.iload_n 1, 1) := by decide +kernel
theorem dL_refuses_863 : dec mL_refuses 863 = .ok (.bipush 9, 2) := by decide +kernel
theorem dL_refuses_865 : dec mL_refuses 865 = .ok (.irem, 1) := by decide +kernel
theorem dL_refuses_866 : dec mL_refuses 866 = .ok (.iadd, 1) := by decide +kernel
theorem dL_refuses_867 : dec mL_refuses 867 = .ok (.invokestatic 182, 3) := by decide +kernel
theorem dL_refuses_870 : dec mL_refuses 870 = .ok (.ldc 22, 2) := by decide +kernel
theorem dL_refuses_872 : dec mL_refuses 872 = .ok (.if_icmp .ne 7, 3) := by decide +kernel
theorem dL_refuses_875 : dec mL_refuses 875 = .ok (.iconst 1, 1) := by decide +kernel
theorem dL_refuses_876 : dec mL_refuses 876 = .ok (.goto 4, 3) := by decide +kernel
theorem dL_refuses_879 : dec mL_refuses 879 = .ok (.iconst 0, 1) := by decide +kernel
theorem dL_refuses_880 : dec mL_refuses 880 = .ok (.ireturn, 1) := by decide +kernel
theorem dL_sound_0 : dec mL_sound 0 = .ok (.aload_n 0, 1) := by decide +kernel
theorem dL_sound_1 : dec mL_sound 1 = .ok (.iconst 2, 1) := by decide +kernel
theorem dL_sound_2 : dec mL_sound 2 = .ok (.iconst 0, 1) := by decide +kernel
theorem dL_sound_3 : dec mL_sound 3 = .ok (.iconst 0, 1) := by decide +kernel
theorem dL_sound_4 : dec mL_sound 4 = .ok (.iconst 0, 1) := by decide +kernel
theorem dL_sound_5 : dec mL_sound 5 = .ok (.invokestatic 168, 3) := by decide +kernel
theorem dL_sound_8 : dec mL_sound 8 = .ok (.istore_n 1, 1) := by decide +kernel
theorem dL_sound_9 : dec mL_sound 9 = .ok (.aload_n 0, 1) := by decide +kernel
theorem dL_sound_10 : dec mL_sound 10 = .ok (.iconst 2, 1) := by decide +kernel
theorem dL_sound_11 : dec mL_sound 11 = .ok (.iconst 2, 1) := by decide +kernel
theorem dL_sound_12 : dec mL_sound 12 = .ok (.iconst 0, 1) := by decide +kernel
theorem dL_sound_13 : dec mL_sound 13 = .ok (.iconst 0, 1) := by decide +kernel
theorem dL_sound_14 : dec mL_sound 14 = .ok (.invokestatic 168, 3) := by decide +kernel
theorem dL_sound_17 : dec mL_sound 17 = .ok (.istore_n 2, 1) := by decide +kernel
theorem dL_sound_18 : dec mL_sound 18 = .ok (.aload_n 0, 1) := by decide +kernel
theorem dL_sound_19 : dec mL_sound 19 = .ok (.iconst 2, 1) := by decide +kernel
theorem dL_sound_20 : dec mL_sound 20 = .ok (.iconst 3, 1) := by decide +kernel
theorem dL_sound_21 : dec mL_sound 21 = .ok (.iconst 0, 1) := by decide +kernel
theorem dL_sound_22 : dec mL_sound 22 = .ok (.iconst 0, 1) := by decide +kernel
theorem dL_sound_23 : dec mL_sound 23 = .ok (.invokestatic 168, 3) := by decide +kernel
theorem dL_sound_26 : dec mL_sound 26 = .ok (.istore_n 3, 1) := by decide +kernel
theorem dL_sound_27 : dec mL_sound 27 = .ok (.aload_n 0, 1) := by decide +kernel
theorem dL_sound_28 : dec mL_sound 28 = .ok (.iconst 2, 1) := by decide +kernel
theorem dL_sound_29 : dec mL_sound 29 = .ok (.iconst 4, 1) := by decide +kernel
theorem dL_sound_30 : dec mL_sound 30 = .ok (.iconst 0, 1) := by decide +kernel
theorem dL_sound_31 : dec mL_sound 31 = .ok (.iconst 0, 1) := by decide +kernel
theorem dL_sound_32 : dec mL_sound 32 = .ok (.invokestatic 168, 3) := by decide +kernel
theorem dL_sound_35 : dec mL_sound 35 = .ok (.istore 4, 2) := by decide +kernel
theorem dL_sound_37 : dec mL_sound 37 = .ok (.bipush 7, 2) := by decide +kernel
theorem dL_sound_39 : dec mL_sound 39 = .ok (.newarray .int, 2) := by decide +kernel
theorem dL_sound_41 : dec mL_sound 41 = .ok (.astore 5, 2) := by decide +kernel
theorem dL_sound_43 : dec mL_sound 43 = .ok (.iconst 0, 1) := by decide +kernel
theorem dL_sound_44 : dec mL_sound 44 = .ok (.istore 6, 2) := by decide +kernel
theorem dL_sound_46 : dec mL_sound 46 = .ok (.iconst 0, 1) := by decide +kernel
theorem dL_sound_47 : dec mL_sound 47 = .ok (.istore 7, 2) := by decide +kernel
theorem dL_sound_49 : dec mL_sound 49 = .ok (.iconst 0, 1) := by decide +kernel
theorem dL_sound_50 : dec mL_sound 50 = .ok (.istore 8, 2) := by decide +kernel
theorem dL_sound_52 : dec mL_sound 52 = .ok (.iconst 0, 1) := by decide +kernel
theorem dL_sound_53 : dec mL_sound 53 = .ok (.istore 9, 2) := by decide +kernel
theorem dL_sound_55 : dec mL_sound 55 = .ok (.iconst (-1), 1) := by decide +kernel
theorem dL_sound_56 : dec mL_sound 56 = .ok (.istore 10, 2) := by decide +kernel
theorem dL_sound_58 : dec mL_sound 58 = .ok (.lconst 0, 1) := by decide +kernel
theorem dL_sound_59 : dec mL_sound 59 = .ok (.lstore 11, 2) := by decide +kernel
theorem dL_sound_61 : dec mL_sound 61 = .ok (.iload_n 2, 1) := by decide +kernel
theorem dL_sound_62 : dec mL_sound 62 = .ok (.iload_n 1, 1) := by decide +kernel
theorem dL_sound_63 : dec mL_sound 63 = .ok (.iconst 2, 1) := by decide +kernel
theorem dL_sound_64 : dec mL_sound 64 = .ok (.iadd, 1) := by decide +kernel
theorem dL_sound_65 : dec mL_sound 65 = .ok (.if_icmp .ne 33, 3) := by decide +kernel
theorem dL_sound_68 : dec mL_sound 68 = .ok (.iload_n 3, 1) := by decide +kernel
theorem dL_sound_69 : dec mL_sound 69 = .ok (.iload_n 1, 1) := by decide +kernel
theorem dL_sound_70 : dec mL_sound 70 = .ok (.iconst 1, 1) := by decide +kernel
theorem dL_sound_71 : dec mL_sound 71 = .ok (.iadd, 1) := by decide +kernel
theorem dL_sound_72 : dec mL_sound 72 = .ok (.aload_n 0, 1) := by decide +kernel
theorem dL_sound_73 : dec mL_sound 73 = .ok (.iconst 2, 1) := by decide +kernel
theorem dL_sound_74 : dec mL_sound 74 = .ok (.iconst 1, 1) := by decide +kernel
theorem dL_sound_75 : dec mL_sound 75 = .ok (.iconst 0, 1) := by decide +kernel
theorem dL_sound_76 : dec mL_sound 76 = .ok (.iconst 0, 1) := by decide +kernel
theorem dL_sound_77 : dec mL_sound 77 = .ok (.invokestatic 168, 3) := by decide +kernel
theorem dL_sound_80 : dec mL_sound 80 = .ok (.imul, 1) := by decide +kernel
theorem dL_sound_81 : dec mL_sound 81 = .ok (.if_icmp .ne 17, 3) := by decide +kernel
theorem dL_sound_84 : dec mL_sound 84 = .ok (.iconst 2, 1) := by decide +kernel
theorem dL_sound_85 : dec mL_sound 85 = .ok (.iload 4, 2) := by decide +kernel
theorem dL_sound_87 : dec mL_sound 87 = .ok (.imul, 1) := by decide +kernel
theorem dL_sound_88 : dec mL_sound 88 = .ok (.iload_n 2, 1) := by decide +kernel
theorem dL_sound_89 : dec mL_sound 89 = .ok (.iload_n 3, 1) := by decide +kernel
theorem dL_sound_90 : dec mL_sound 90 = .ok (.imul, 1) := by decide +kernel
theorem dL_sound_91 : dec mL_sound 91 = .ok (.if_icmp .ne 7, 3) := by decide +kernel
theorem dL_sound_94 : dec mL_sound 94 = .ok (.iconst 1, 1) := by decide +kernel
theorem dL_sound_95 : dec mL_sound 95 = .ok (.goto 4, 3) := by decide +kernel
theorem dL_sound_98 : dec mL_sound 98 = .ok (.iconst 0, 1) := by decide +kernel
theorem dL_sound_99 : dec mL_sound 99 = .ok (.istore 13, 2) := by decide +kernel
theorem dL_sound_101 : dec mL_sound 101 = .ok (.iconst 0, 1) := by decide +kernel
theorem dL_sound_102 : dec mL_sound 102 = .ok (.istore 14, 2) := by decide +kernel
theorem dL_sound_104 : dec mL_sound 104 = .ok (.iload 14, 2) := by decide +kernel
theorem dL_sound_106 : dec mL_sound 106 = .ok (.iload 4, 2) := by decide +kernel
theorem dL_sound_108 : dec mL_sound 108 = .ok (.if_icmp .ge 377, 3) := by decide +kernel
theorem dL_sound_111 : dec mL_sound 111 = .ok (.iload 13, 2) := by decide +kernel
theorem dL_sound_113 : dec mL_sound 113 = .ok (.ifCond .eq 372, 3) := by decide +kernel
theorem dL_sound_116 : dec mL_sound 116 = .ok (.aload_n 0, 1) := by decide +kernel
theorem dL_sound_117 : dec mL_sound 117 = .ok (.iconst 4, 1) := by decide +kernel
theorem dL_sound_118 : dec mL_sound 118 = .ok (.iload 14, 2) := by decide +kernel
theorem dL_sound_120 : dec mL_sound 120 = .ok (.iconst 0, 1) := by decide +kernel
theorem dL_sound_121 : dec mL_sound 121 = .ok (.iconst 0, 1) := by decide +kernel
theorem dL_sound_122 : dec mL_sound 122 = .ok (.invokestatic 168, 3) := by decide +kernel
theorem dL_sound_125 : dec mL_sound 125 = .ok (.istore 15, 2) := by decide +kernel
theorem dL_sound_127 : dec mL_sound 127 = .ok (.aload_n 0, 1) := by decide +kernel
theorem dL_sound_128 : dec mL_sound 128 = .ok (.iconst 4, 1) := by decide +kernel
theorem dL_sound_129 : dec mL_sound 129 = .ok (.iload 14, 2) := by decide +kernel
theorem dL_sound_131 : dec mL_sound 131 = .ok (.iconst 1, 1) := by decide +kernel
theorem dL_sound_132 : dec mL_sound 132 = .ok (.iconst 0, 1) := by decide +kernel
theorem dL_sound_133 : dec mL_sound 133 = .ok (.invokestatic 168, 3) := by decide +kernel
theorem dL_sound_136 : dec mL_sound 136 = .ok (.istore 16, 2) := by decide +kernel
theorem dL_sound_138 : dec mL_sound 138 = .ok (.aload_n 0, 1) := by decide +kernel
theorem dL_sound_139 : dec mL_sound 139 = .ok (.iconst 4, 1) := by decide +kernel
theorem dL_sound_140 : dec mL_sound 140 = .ok (.iload 14, 2) := by decide +kernel
theorem dL_sound_142 : dec mL_sound 142 = .ok (.iconst 2, 1) := by decide +kernel
theorem dL_sound_143 : dec mL_sound 143 = .ok (.iconst 0, 1) := by decide +kernel
theorem dL_sound_144 : dec mL_sound 144 = .ok (.invokestatic 168, 3) := by decide +kernel
theorem dL_sound_147 : dec mL_sound 147 = .ok (.istore 17, 2) := by decide +kernel
theorem dL_sound_149 : dec mL_sound 149 = .ok (.aload_n 0, 1) := by decide +kernel
theorem dL_sound_150 : dec mL_sound 150 = .ok (.iconst 4, 1) := by decide +kernel
theorem dL_sound_151 : dec mL_sound 151 = .ok (.iload 14, 2) := by decide +kernel
theorem dL_sound_153 : dec mL_sound 153 = .ok (.iconst 3, 1) := by decide +kernel
theorem dL_sound_154 : dec mL_sound 154 = .ok (.iconst 0, 1) := by decide +kernel
theorem dL_sound_155 : dec mL_sound 155 = .ok (.invokestatic 168, 3) := by decide +kernel
theorem dL_sound_158 : dec mL_sound 158 = .ok (.istore 18, 2) := by decide +kernel
theorem dL_sound_160 : dec mL_sound 160 = .ok (.aload_n 0, 1) := by decide +kernel
theorem dL_sound_161 : dec mL_sound 161 = .ok (.iconst 4, 1) := by decide +kernel
theorem dL_sound_162 : dec mL_sound 162 = .ok (.iload 14, 2) := by decide +kernel
theorem dL_sound_164 : dec mL_sound 164 = .ok (.bipush 6, 2) := by decide +kernel
theorem dL_sound_166 : dec mL_sound 166 = .ok (.iconst 0, 1) := by decide +kernel
theorem dL_sound_167 : dec mL_sound 167 = .ok (.invokestatic 168, 3) := by decide +kernel
theorem dL_sound_170 : dec mL_sound 170 = .ok (.istore 19, 2) := by decide +kernel
theorem dL_sound_172 : dec mL_sound 172 = .ok (.aload_n 0, 1) := by decide +kernel
theorem dL_sound_173 : dec mL_sound 173 = .ok (.iconst 3, 1) := by decide +kernel
theorem dL_sound_174 : dec mL_sound 174 = .ok (.iload 15, 2) := by decide +kernel
theorem dL_sound_176 : dec mL_sound 176 = .ok (.iload_n 2, 1) := by decide +kernel
theorem dL_sound_177 : dec mL_sound 177 = .ok (.irem, 1) := by decide +kernel
theorem dL_sound_178 : dec mL_sound 178 = .ok (.iload 15, 2) := by decide +kernel
theorem dL_sound_180 : dec mL_sound 180 = .ok (.iload_n 2, 1) := by decide +kernel
theorem dL_sound_181 : dec mL_sound 181 = .ok (.idiv, 1) := by decide +kernel
theorem dL_sound_182 : dec mL_sound 182 = .ok (.iconst 4, 1) := by decide +kernel
theorem dL_sound_183 : dec mL_sound 183 = .ok (.invokestatic 168, 3) := by decide +kernel
theorem dL_sound_186 : dec mL_sound 186 = .ok (.istore 20, 2) := by decide +kernel
theorem dL_sound_188 : dec mL_sound 188 = .ok (.aload_n 0, 1) := by decide +kernel
theorem dL_sound_189 : dec mL_sound 189 = .ok (.iconst 3, 1) := by decide +kernel
theorem dL_sound_190 : dec mL_sound 190 = .ok (.iload 16, 2) := by decide +kernel
theorem dL_sound_192 : dec mL_sound 192 = .ok (.iload_n 2, 1) := by decide +kernel
theorem dL_sound_193 : dec mL_sound 193 = .ok (.irem, 1) := by decide +kernel
theorem dL_sound_194 : dec mL_sound 194 = .ok (.iload 16, 2) := by decide +kernel
theorem dL_sound_196 : dec mL_sound 196 = .ok (.iload_n 2, 1) := by decide +kernel
theorem dL_sound_197 : dec mL_sound 197 = .ok (.idiv, 1) := by decide +kernel
theorem dL_sound_198 : dec mL_sound 198 = .ok (.iconst 4, 1) := by decide +kernel
theorem dL_sound_199 : dec mL_sound 199 = .ok (.invokestatic 168, 3) := by decide +kernel
theorem dL_sound_202 : dec mL_sound 202 = .ok (.istore 21, 2) := by decide +kernel
theorem dL_sound_204 : dec mL_sound 204 = .ok (.aload_n 0, 1) := by decide +kernel
theorem dL_sound_205 : dec mL_sound 205 = .ok (.iconst 3, 1) := by decide +kernel
theorem dL_sound_206 : dec mL_sound 206 = .ok (.iload 15, 2) := by decide +kernel
theorem dL_sound_208 : dec mL_sound 208 = .ok (.iload_n 2, 1) := by decide +kernel
theorem dL_sound_209 : dec mL_sound 209 = .ok (.irem, 1) := by decide +kernel
theorem dL_sound_210 : dec mL_sound 210 = .ok (.iload 15, 2) := by decide +kernel
theorem dL_sound_212 : dec mL_sound 212 = .ok (.iload_n 2, 1) := by decide +kernel
theorem dL_sound_213 : dec mL_sound 213 = .ok (.idiv, 1) := by decide +kernel
theorem dL_sound_214 : dec mL_sound 214 = .ok (.iconst 2, 1) := by decide +kernel
theorem dL_sound_215 : dec mL_sound 215 = .ok (.invokestatic 168, 3) := by decide +kernel
theorem dL_sound_218 : dec mL_sound 218 = .ok (.aload_n 0, 1) := by decide +kernel
theorem dL_sound_219 : dec mL_sound 219 = .ok (.iconst 3, 1) := by decide +kernel
theorem dL_sound_220 : dec mL_sound 220 = .ok (.iload 16, 2) := by decide +kernel
theorem dL_sound_222 : dec mL_sound 222 = .ok (.iload_n 2, 1) := by decide +kernel
theorem dL_sound_223 : dec mL_sound 223 = .ok (.irem, 1) := by decide +kernel
theorem dL_sound_224 : dec mL_sound 224 = .ok (.iload 16, 2) := by decide +kernel
theorem dL_sound_226 : dec mL_sound 226 = .ok (.iload_n 2, 1) := by decide +kernel
theorem dL_sound_227 : dec mL_sound 227 = .ok (.idiv, 1) := by decide +kernel
theorem dL_sound_228 : dec mL_sound 228 = .ok (.iconst 2, 1) := by decide +kernel
theorem dL_sound_229 : dec mL_sound 229 = .ok (.invokestatic 168, 3) := by decide +kernel
theorem dL_sound_232 : dec mL_sound 232 = .ok (.iadd, 1) := by decide +kernel
theorem dL_sound_233 : dec mL_sound 233 = .ok (.istore 22, 2) := by decide +kernel
theorem dL_sound_235 : dec mL_sound 235 = .ok (.iload 6, 2) := by decide +kernel
theorem dL_sound_237 : dec mL_sound 237 = .ok (.iload 22, 2) := by decide +kernel
theorem dL_sound_239 : dec mL_sound 239 = .ok (.iadd, 1) := by decide +kernel
theorem dL_sound_240 : dec mL_sound 240 = .ok (.istore 6, 2) := by decide +kernel
theorem dL_sound_242 : dec mL_sound 242 = .ok (.iload 7, 2) := by decide +kernel
theorem dL_sound_244 : dec mL_sound 244 = .ok (.iload 19, 2) := by decide +kernel
theorem dL_sound_246 : dec mL_sound 246 = .ok (.iadd, 1) := by decide +kernel
theorem dL_sound_247 : dec mL_sound 247 = .ok (.istore 7, 2) := by decide +kernel
theorem dL_sound_249 : dec mL_sound 249 = .ok (.iload 8, 2) := by decide +kernel
theorem dL_sound_251 : dec mL_sound 251 = .ok (.iload 18, 2) := by decide +kernel
theorem dL_sound_253 : dec mL_sound 253 = .ok (.iadd, 1) := by decide +kernel
theorem dL_sound_254 : dec mL_sound 254 = .ok (.istore 8, 2) := by decide +kernel
theorem dL_sound_256 : dec mL_sound 256 = .ok (.iload 9, 2) := by decide +kernel
theorem dL_sound_258 : dec mL_sound 258 = .ok (.aload_n 0, 1) := by decide +kernel
theorem dL_sound_259 : dec mL_sound 259 = .ok (.iconst 4, 1) := by decide +kernel
theorem dL_sound_260 : dec mL_sound 260 = .ok (.iload 14, 2) := by decide +kernel
theorem dL_sound_262 : dec mL_sound 262 = .ok (.iconst 5, 1) := by decide +kernel
theorem dL_sound_263 : dec mL_sound 263 = .ok (.iconst 0, 1) := by decide +kernel
theorem dL_sound_264 : dec mL_sound 264 = .ok (.invokestatic 168, 3) := by decide +kernel
theorem dL_sound_267 : dec mL_sound 267 = .ok (.iadd, 1) := by decide +kernel
theorem dL_sound_268 : dec mL_sound 268 = .ok (.istore 9, 2) := by decide +kernel
theorem dL_sound_270 : dec mL_sound 270 = .ok (.lload 11, 2) := by decide +kernel
theorem dL_sound_272 : dec mL_sound 272 = .ok (.lconst 1, 1) := by decide +kernel
theorem dL_sound_273 : dec mL_sound 273 = .ok (.iload 17, 2) := by decide +kernel
theorem dL_sound_275 : dec mL_sound 275 = .ok (.lshl, 1) := by decide +kernel
theorem dL_sound_276 : dec mL_sound 276 = .ok (.lor, 1) := by decide +kernel
theorem dL_sound_277 : dec mL_sound 277 = .ok (.lstore 11, 2) := by decide +kernel
theorem dL_sound_279 : dec mL_sound 279 = .ok (.iload 15, 2) := by decide +kernel
theorem dL_sound_281 : dec mL_sound 281 = .ok (.iload 10, 2) := by decide +kernel
theorem dL_sound_283 : dec mL_sound 283 = .ok (.if_icmp .le 166, 3) := by decide +kernel
theorem dL_sound_286 : dec mL_sound 286 = .ok (.iload 16, 2) := by decide +kernel
theorem dL_sound_288 : dec mL_sound 288 = .ok (.iload 19, 2) := by decide +kernel
theorem dL_sound_290 : dec mL_sound 290 = .ok (.iconst 1, 1) := by decide +kernel
theorem dL_sound_291 : dec mL_sound 291 = .ok (.if_icmp .ne 10, 3) := by decide +kernel
theorem dL_sound_294 : dec mL_sound 294 = .ok (.iload 15, 2) := by decide +kernel
theorem dL_sound_296 : dec mL_sound 296 = .ok (.iconst 1, 1) := by decide +kernel
theorem dL_sound_297 : dec mL_sound 297 = .ok (.iadd, 1) := by decide +kernel
theorem dL_sound_298 : dec mL_sound 298 = .ok (.goto 7, 3) := by decide +kernel
theorem dL_sound_301 : dec mL_sound 301 = .ok (.iload 15, 2) := by decide +kernel
theorem dL_sound_303 : dec mL_sound 303 = .ok (.iload_n 2, 1) := by decide +kernel
theorem dL_sound_304 : dec mL_sound 304 = .ok (.iadd, 1) := by decide +kernel
theorem dL_sound_305 : dec mL_sound 305 = .ok (.if_icmp .ne 144, 3) := by decide +kernel
theorem dL_sound_308 : dec mL_sound 308 = .ok (.iload 19, 2) := by decide +kernel
theorem dL_sound_310 : dec mL_sound 310 = .ok (.ifCond .eq 13, 3) := by decide +kernel
theorem dL_sound_313 : dec mL_sound 313 = .ok (.iload 15, 2) := by decide +kernel
theorem dL_sound_315 : dec mL_sound 315 = .ok (.iload_n 2, 1) := by decide +kernel
theorem dL_sound_316 : dec mL_sound 316 = .ok (.irem, 1) := by decide +kernel
theorem dL_sound_317 : dec mL_sound 317 = .ok (.iload_n 2, 1) := by decide +kernel
theorem dL_sound_318 : dec mL_sound 318 = .ok (.iconst 1, 1) := by decide +kernel
theorem dL_sound_319 : dec mL_sound 319 = .ok (.isub, 1) := by decide +kernel
theorem dL_sound_320 : dec mL_sound 320 = .ok (.if_icmp .ge 129, 3) := by decide +kernel
theorem dL_sound_323 : dec mL_sound 323 = .ok (.iload 16, 2) := by decide +kernel
theorem dL_sound_325 : dec mL_sound 325 = .ok (.iconst 2, 1) := by decide +kernel
theorem dL_sound_326 : dec mL_sound 326 = .ok (.iload 4, 2) := by decide +kernel
theorem dL_sound_328 : dec mL_sound 328 = .ok (.imul, 1) := by decide +kernel
theorem dL_sound_329 : dec mL_sound 329 = .ok (.if_icmp .ge 120, 3) := by decide +kernel
theorem dL_sound_332 : dec mL_sound 332 = .ok (.aload_n 0, 1) := by decide +kernel
theorem dL_sound_333 : dec mL_sound 333 = .ok (.iconst 5, 1) := by decide +kernel
theorem dL_sound_334 : dec mL_sound 334 = .ok (.iload 17, 2) := by decide +kernel
theorem dL_sound_336 : dec mL_sound 336 = .ok (.iconst 2, 1) := by decide +kernel
theorem dL_sound_337 : dec mL_sound 337 = .ok (.iconst 0, 1) := by decide +kernel
theorem dL_sound_338 : dec mL_sound 338 = .ok (.invokestatic 168, 3) := by decide +kernel
theorem dL_sound_341 : dec mL_sound 341 = .ok (.iload 14, 2) := by decide +kernel
theorem dL_sound_343 : dec mL_sound 343 = .ok (.if_icmp .ne 106, 3) := by decide +kernel
theorem dL_sound_346 : dec mL_sound 346 = .ok (.aload_n 0, 1) := by decide +kernel
theorem dL_sound_347 : dec mL_sound 347 = .ok (.iconst 3, 1) := by decide +kernel
theorem dL_sound_348 : dec mL_sound 348 = .ok (.iload 15, 2) := by decide +kernel
theorem dL_sound_350 : dec mL_sound 350 = .ok (.iload_n 2, 1) := by decide +kernel
theorem dL_sound_351 : dec mL_sound 351 = .ok (.irem, 1) := by decide +kernel
theorem dL_sound_352 : dec mL_sound 352 = .ok (.iload 15, 2) := by decide +kernel
theorem dL_sound_354 : dec mL_sound 354 = .ok (.iload_n 2, 1) := by decide +kernel
theorem dL_sound_355 : dec mL_sound 355 = .ok (.idiv, 1) := by decide +kernel
theorem dL_sound_356 : dec mL_sound 356 = .ok (.iconst 3, 1) := by decide +kernel
theorem dL_sound_357 : dec mL_sound 357 = .ok (.invokestatic 168, 3) := by decide +kernel
theorem dL_sound_360 : dec mL_sound 360 = .ok (.iload 14, 2) := by decide +kernel
theorem dL_sound_362 : dec mL_sound 362 = .ok (.if_icmp .ne 87, 3) := by decide +kernel
theorem dL_sound_365 : dec mL_sound 365 = .ok (.aload_n 0, 1) := by decide +kernel
theorem dL_sound_366 : dec mL_sound 366 = .ok (.iconst 3, 1) := by decide +kernel
theorem dL_sound_367 : dec mL_sound 367 = .ok (.iload 16, 2) := by decide +kernel
theorem dL_sound_369 : dec mL_sound 369 = .ok (.iload_n 2, 1) := by decide +kernel
theorem dL_sound_370 : dec mL_sound 370 = .ok (.irem, 1) := by decide +kernel
theorem dL_sound_371 : dec mL_sound 371 = .ok (.iload 16, 2) := by decide +kernel
theorem dL_sound_373 : dec mL_sound 373 = .ok (.iload_n 2, 1) := by decide +kernel
theorem dL_sound_374 : dec mL_sound 374 = .ok (.idiv, 1) := by decide +kernel
theorem dL_sound_375 : dec mL_sound 375 = .ok (.iconst 3, 1) := by decide +kernel
theorem dL_sound_376 : dec mL_sound 376 = .ok (.invokestatic 168, 3) := by decide +kernel
theorem dL_sound_379 : dec mL_sound 379 = .ok (.iload 14, 2) := by decide +kernel
theorem dL_sound_381 : dec mL_sound 381 = .ok (.if_icmp .ne 68, 3) := by decide +kernel
theorem dL_sound_384 : dec mL_sound 384 = .ok (.iload 22, 2) := by decide +kernel
theorem dL_sound_386 : dec mL_sound 386 = .ok (.aload_n 0, 1) := by decide +kernel
theorem dL_sound_387 : dec mL_sound 387 = .ok (.iconst 4, 1) := by decide +kernel
theorem dL_sound_388 : dec mL_sound 388 = .ok (.iload 14, 2) := by decide +kernel
theorem dL_sound_390 : dec mL_sound 390 = .ok (.iconst 4, 1) := by decide +kernel
theorem dL_sound_391 : dec mL_sound 391 = .ok (.iconst 0, 1) := by decide +kernel
theorem dL_sound_392 : dec mL_sound 392 = .ok (.invokestatic 168, 3) := by decide +kernel
theorem dL_sound_395 : dec mL_sound 395 = .ok (.if_icmp .ne 54, 3) := by decide +kernel
theorem dL_sound_398 : dec mL_sound 398 = .ok (.iload 20, 2) := by decide +kernel
theorem dL_sound_400 : dec mL_sound 400 = .ok (.aload_n 0, 1) := by decide +kernel
theorem dL_sound_401 : dec mL_sound 401 = .ok (.iconst 5, 1) := by decide +kernel
theorem dL_sound_402 : dec mL_sound 402 = .ok (.iload 17, 2) := by decide +kernel
theorem dL_sound_404 : dec mL_sound 404 = .ok (.iload 18, 2) := by decide +kernel
theorem dL_sound_406 : dec mL_sound 406 = .ok (.iconst 0, 1) := by decide +kernel
theorem dL_sound_407 : dec mL_sound 407 = .ok (.invokestatic 168, 3) := by decide +kernel
theorem dL_sound_410 : dec mL_sound 410 = .ok (.if_icmp .ne 39, 3) := by decide +kernel
theorem dL_sound_413 : dec mL_sound 413 = .ok (.iload 21, 2) := by decide +kernel
theorem dL_sound_415 : dec mL_sound 415 = .ok (.aload_n 0, 1) := by decide +kernel
theorem dL_sound_416 : dec mL_sound 416 = .ok (.iconst 5, 1) := by decide +kernel
theorem dL_sound_417 : dec mL_sound 417 = .ok (.iload 17, 2) := by decide +kernel
theorem dL_sound_419 : dec mL_sound 419 = .ok (.iconst 1, 1) := by decide +kernel
theorem dL_sound_420 : dec mL_sound 420 = .ok (.iload 18, 2) := by decide +kernel
theorem dL_sound_422 : dec mL_sound 422 = .ok (.isub, 1) := by decide +kernel
theorem dL_sound_423 : dec mL_sound 423 = .ok (.iconst 0, 1) := by decide +kernel
theorem dL_sound_424 : dec mL_sound 424 = .ok (.invokestatic 168, 3) := by decide +kernel
theorem dL_sound_427 : dec mL_sound 427 = .ok (.if_icmp .ne 22, 3) := by decide +kernel
theorem dL_sound_430 : dec mL_sound 430 = .ok (.aload_n 0, 1) := by decide +kernel
theorem dL_sound_431 : dec mL_sound 431 = .ok (.bipush 14, 2) := by decide +kernel
theorem dL_sound_433 : dec mL_sound 433 = .ok (.iload 14, 2) := by decide +kernel
theorem dL_sound_435 : dec mL_sound 435 = .ok (.iconst 0, 1) := by decide +kernel
theorem dL_sound_436 : dec mL_sound 436 = .ok (.iconst 0, 1) := by decide +kernel
theorem dL_sound_437 : dec mL_sound 437 = .ok (.invokestatic 168, 3) := by decide +kernel
theorem dL_sound_440 : dec mL_sound 440 = .ok (.iload 22, 2) := by decide +kernel
theorem dL_sound_442 : dec mL_sound 442 = .ok (.if_icmp .gt 7, 3) := by decide +kernel
theorem dL_sound_445 : dec mL_sound 445 = .ok (.iconst 1, 1) := by decide +kernel
theorem dL_sound_446 : dec mL_sound 446 = .ok (.goto 4, 3) := by decide +kernel
theorem dL_sound_449 : dec mL_sound 449 = .ok (.iconst 0, 1) := by decide +kernel
theorem dL_sound_450 : dec mL_sound 450 = .ok (.istore 13, 2) := by decide +kernel
theorem dL_sound_452 : dec mL_sound 452 = .ok (.iload 13, 2) := by decide +kernel
theorem dL_sound_454 : dec mL_sound 454 = .ok (.ifCond .eq 21, 3) := by decide +kernel
theorem dL_sound_457 : dec mL_sound 457 = .ok (.aload 5, 2) := by decide +kernel
theorem dL_sound_459 : dec mL_sound 459 = .ok (.iload 20, 2) := by decide +kernel
theorem dL_sound_461 : dec mL_sound 461 = .ok (.dup2, 1) := by decide +kernel
theorem dL_sound_462 : dec mL_sound 462 = .ok (.iaload, 1) := by decide +kernel
theorem dL_sound_463 : dec mL_sound 463 = .ok (.iconst 1, 1) := by decide +kernel
theorem dL_sound_464 : dec mL_sound 464 = .ok (.iadd, 1) := by decide +kernel
theorem dL_sound_465 : dec mL_sound 465 = .ok (.iastore, 1) := by decide +kernel
theorem dL_sound_466 : dec mL_sound 466 = .ok (.aload 5, 2) := by decide +kernel
theorem dL_sound_468 : dec mL_sound 468 = .ok (.iload 21, 2) := by decide +kernel
theorem dL_sound_470 : dec mL_sound 470 = .ok (.dup2, 1) := by decide +kernel
theorem dL_sound_471 : dec mL_sound 471 = .ok (.iaload, 1) := by decide +kernel
theorem dL_sound_472 : dec mL_sound 472 = .ok (.iconst 1, 1) := by decide +kernel
theorem dL_sound_473 : dec mL_sound 473 = .ok (.iadd, 1) := by decide +kernel
theorem dL_sound_474 : dec mL_sound 474 = .ok (.iastore, 1) := by decide +kernel
theorem dL_sound_475 : dec mL_sound 475 = .ok (.iload 15, 2) := by decide +kernel
theorem dL_sound_477 : dec mL_sound 477 = .ok (.istore 10, 2) := by decide +kernel
theorem dL_sound_479 : dec mL_sound 479 = .ok (.iinc 14 1, 3) := by decide +kernel
theorem dL_sound_482 : dec mL_sound 482 = .ok (.goto (-378), 3) := by decide +kernel
theorem dL_sound_485 : dec mL_sound 485 = .ok (.iconst 0, 1) := by decide +kernel
theorem dL_sound_486 : dec mL_sound 486 = .ok (.istore 14, 2) := by decide +kernel
theorem dL_sound_488 : dec mL_sound 488 = .ok (.iload 14, 2) := by decide +kernel
theorem dL_sound_490 : dec mL_sound 490 = .ok (.iload_n 1, 1) := by decide +kernel
theorem dL_sound_491 : dec mL_sound 491 = .ok (.if_icmp .gt 39, 3) := by decide +kernel
theorem dL_sound_494 : dec mL_sound 494 = .ok (.iload 13, 2) := by decide +kernel
theorem dL_sound_496 : dec mL_sound 496 = .ok (.ifCond .eq 34, 3) := by decide +kernel
theorem dL_sound_499 : dec mL_sound 499 = .ok (.aload 5, 2) := by decide +kernel
theorem dL_sound_501 : dec mL_sound 501 = .ok (.iload 14, 2) := by decide +kernel
theorem dL_sound_503 : dec mL_sound 503 = .ok (.iaload, 1) := by decide +kernel
theorem dL_sound_504 : dec mL_sound 504 = .ok (.iload_n 2, 1) := by decide +kernel
theorem dL_sound_505 : dec mL_sound 505 = .ok (.aload_n 0, 1) := by decide +kernel
theorem dL_sound_506 : dec mL_sound 506 = .ok (.iconst 2, 1) := by decide +kernel
theorem dL_sound_507 : dec mL_sound 507 = .ok (.iconst 1, 1) := by decide +kernel
theorem dL_sound_508 : dec mL_sound 508 = .ok (.iconst 0, 1) := by decide +kernel
theorem dL_sound_509 : dec mL_sound 509 = .ok (.iconst 0, 1) := by decide +kernel
theorem dL_sound_510 : dec mL_sound 510 = .ok (.invokestatic 168, 3) := by decide +kernel
theorem dL_sound_513 : dec mL_sound 513 = .ok (.imul, 1) := by decide +kernel
theorem dL_sound_514 : dec mL_sound 514 = .ok (.if_icmp .ne 7, 3) := by decide +kernel
theorem dL_sound_517 : dec mL_sound 517 = .ok (.iconst 1, 1) := by decide +kernel
theorem dL_sound_518 : dec mL_sound 518 = .ok (.goto 4, 3) := by decide +kernel
theorem dL_sound_521 : dec mL_sound 521 = .ok (.iconst 0, 1) := by decide +kernel
theorem dL_sound_522 : dec mL_sound 522 = .ok (.istore 13, 2) := by decide +kernel
theorem dL_sound_524 : dec mL_sound 524 = .ok (.iinc 14 1, 3) := by decide +kernel
theorem dL_sound_527 : dec mL_sound 527 = .ok (.goto (-39), 3) := by decide +kernel
theorem dL_sound_530 : dec mL_sound 530 = .ok (.aload_n 0, 1) := by decide +kernel
theorem dL_sound_531 : dec mL_sound 531 = .ok (.bipush 17, 2) := by decide +kernel
theorem dL_sound_533 : dec mL_sound 533 = .ok (.iconst 0, 1) := by decide +kernel
theorem dL_sound_534 : dec mL_sound 534 = .ok (.iconst 0, 1) := by decide +kernel
theorem dL_sound_535 : dec mL_sound 535 = .ok (.iconst 0, 1) := by decide +kernel
theorem dL_sound_536 : dec mL_sound 536 = .ok (.invokestatic 168, 3) := by decide +kernel
theorem dL_sound_539 : dec mL_sound 539 = .ok (.istore 14, 2) := by decide +kernel
theorem dL_sound_541 : dec mL_sound 541 = .ok (.iload 13, 2) := by decide +kernel
theorem dL_sound_543 : dec mL_sound 543 = .ok (.ifCond .eq 127, 3) := by decide +kernel
theorem dL_sound_546 : dec mL_sound 546 = .ok (.lload 11, 2) := by decide +kernel
theorem dL_sound_548 : dec mL_sound 548 = .ok (.lconst 1, 1) := by decide +kernel
theorem dL_sound_549 : dec mL_sound 549 = .ok (.iload 4, 2) := by decide +kernel
theorem dL_sound_551 : dec mL_sound 551 = .ok (.lshl, 1) := by decide +kernel
theorem dL_sound_552 : dec mL_sound 552 = .ok (.lconst 1, 1) := by decide +kernel
theorem dL_sound_553 : dec mL_sound 553 = .ok (.lsub, 1) := by decide +kernel
theorem dL_sound_554 : dec mL_sound 554 = .ok (.lcmp, 1) := by decide +kernel
theorem dL_sound_555 : dec mL_sound 555 = .ok (.ifCond .ne 115, 3) := by decide +kernel
theorem dL_sound_558 : dec mL_sound 558 = .ok (.aload_n 0, 1) := by decide +kernel
theorem dL_sound_559 : dec mL_sound 559 = .ok (.iconst 2, 1) := by decide +kernel
theorem dL_sound_560 : dec mL_sound 560 = .ok (.iconst 5, 1) := by decide +kernel
theorem dL_sound_561 : dec mL_sound 561 = .ok (.iconst 0, 1) := by decide +kernel
theorem dL_sound_562 : dec mL_sound 562 = .ok (.iconst 0, 1) := by decide +kernel
theorem dL_sound_563 : dec mL_sound 563 = .ok (.invokestatic 168, 3) := by decide +kernel
theorem dL_sound_566 : dec mL_sound 566 = .ok (.iload 6, 2) := by decide +kernel
theorem dL_sound_568 : dec mL_sound 568 = .ok (.if_icmp .ne 102, 3) := by decide +kernel
theorem dL_sound_571 : dec mL_sound 571 = .ok (.aload_n 0, 1) := by decide +kernel
theorem dL_sound_572 : dec mL_sound 572 = .ok (.iconst 2, 1) := by decide +kernel
theorem dL_sound_573 : dec mL_sound 573 = .ok (.bipush 6, 2) := by decide +kernel
theorem dL_sound_575 : dec mL_sound 575 = .ok (.iconst 0, 1) := by decide +kernel
theorem dL_sound_576 : dec mL_sound 576 = .ok (.iconst 0, 1) := by decide +kernel
theorem dL_sound_577 : dec mL_sound 577 = .ok (.invokestatic 168, 3) := by decide +kernel
theorem dL_sound_580 : dec mL_sound 580 = .ok (.iload 7, 2) := by decide +kernel
theorem dL_sound_582 : dec mL_sound 582 = .ok (.if_icmp .ne 88, 3) := by decide +kernel
theorem dL_sound_585 : dec mL_sound 585 = .ok (.aload_n 0, 1) := by decide +kernel
theorem dL_sound_586 : dec mL_sound 586 = .ok (.iconst 2, 1) := by decide +kernel
theorem dL_sound_587 : dec mL_sound 587 = .ok (.bipush 7, 2) := by decide +kernel
theorem dL_sound_589 : dec mL_sound 589 = .ok (.iconst 0, 1) := by decide +kernel
theorem dL_sound_590 : dec mL_sound 590 = .ok (.iconst 0, 1) := by decide +kernel
theorem dL_sound_591 : dec mL_sound 591 = .ok (.invokestatic 168, 3) := by decide +kernel
theorem dL_sound_594 : dec mL_sound 594 = .ok (.iload 8, 2) := by decide +kernel
theorem dL_sound_596 : dec mL_sound 596 = .ok (.if_icmp .ne 74, 3) := by decide +kernel
theorem dL_sound_599 : dec mL_sound 599 = .ok (.aload_n 0, 1) := by decide +kernel
theorem dL_sound_600 : dec mL_sound 600 = .ok (.iconst 2, 1) := by decide +kernel
theorem dL_sound_601 : dec mL_sound 601 = .ok (.bipush 8, 2) := by decide +kernel
theorem dL_sound_603 : dec mL_sound 603 = .ok (.iconst 0, 1) := by decide +kernel
theorem dL_sound_604 : dec mL_sound 604 = .ok (.iconst 0, 1) := by decide +kernel
theorem dL_sound_605 : dec mL_sound 605 = .ok (.invokestatic 168, 3) := by decide +kernel
theorem dL_sound_608 : dec mL_sound 608 = .ok (.iload 9, 2) := by decide +kernel
theorem dL_sound_610 : dec mL_sound 610 = .ok (.if_icmp .ne 60, 3) := by decide +kernel
theorem dL_sound_613 : dec mL_sound 613 = .ok (.aload_n 0, 1) := by decide +kernel
theorem dL_sound_614 : dec mL_sound 614 = .ok (.invokevirtual 186, 3) := by decide +kernel
theorem dL_sound_617 : dec mL_sound 617 = .ok (.iload 6, 2) := by decide +kernel
theorem dL_sound_619 : dec mL_sound 619 = .ok (.if_icmp .gt 51, 3) := by decide +kernel
theorem dL_sound_622 : dec mL_sound 622 = .ok (.aload_n 0, 1) := by decide +kernel
theorem dL_sound_623 : dec mL_sound 623 = .ok (.iconst 4, 1) := by decide +kernel
theorem dL_sound_624 : dec mL_sound 624 = .ok (.iload 14, 2) := by decide +kernel
theorem dL_sound_626 : dec mL_sound 626 = .ok (.iconst 4, 1) := by decide +kernel
theorem dL_sound_627 : dec mL_sound 627 = .ok (.iconst 0, 1) := by decide +kernel
theorem dL_sound_628 : dec mL_sound 628 = .ok (.invokestatic 168, 3) := by decide +kernel
theorem dL_sound_631 : dec mL_sound 631 = .ok (.iload 4, 2) := by decide +kernel
theorem dL_sound_633 : dec mL_sound 633 = .ok (.imul, 1) := by decide +kernel
theorem dL_sound_634 : dec mL_sound 634 = .ok (.iload 6, 2) := by decide +kernel
theorem dL_sound_636 : dec mL_sound 636 = .ok (.if_icmp .lt 34, 3) := by decide +kernel
theorem dL_sound_639 : dec mL_sound 639 = .ok (.aload_n 0, 1) := by decide +kernel
theorem dL_sound_640 : dec mL_sound 640 = .ok (.iconst 4, 1) := by decide +kernel
theorem dL_sound_641 : dec mL_sound 641 = .ok (.aload_n 0, 1) := by decide +kernel
theorem dL_sound_642 : dec mL_sound 642 = .ok (.bipush 17, 2) := by decide +kernel
theorem dL_sound_644 : dec mL_sound 644 = .ok (.iload 4, 2) := by decide +kernel
theorem dL_sound_646 : dec mL_sound 646 = .ok (.iconst 1, 1) := by decide +kernel
theorem dL_sound_647 : dec mL_sound 647 = .ok (.isub, 1) := by decide +kernel
theorem dL_sound_648 : dec mL_sound 648 = .ok (.iconst 0, 1) := by decide +kernel
theorem dL_sound_649 : dec mL_sound 649 = .ok (.iconst 0, 1) := by decide +kernel
theorem dL_sound_650 : dec mL_sound 650 = .ok (.invokestatic 168, 3) := by decide +kernel
theorem dL_sound_653 : dec mL_sound 653 = .ok (.iconst 4, 1) := by decide +kernel
theorem dL_sound_654 : dec mL_sound 654 = .ok (.iconst 0, 1) := by decide +kernel
theorem dL_sound_655 : dec mL_sound 655 = .ok (.invokestatic 168, 3) := by decide +kernel
theorem dL_sound_658 : dec mL_sound 658 = .ok (.iload 4, 2) := by decide +kernel
theorem dL_sound_660 : dec mL_sound 660 = .ok (.imul, 1) := by decide +kernel
theorem dL_sound_661 : dec mL_sound 661 = .ok (.iload 6, 2) := by decide +kernel
theorem dL_sound_663 : dec mL_sound 663 = .ok (.if_icmp .gt 7, 3) := by decide +kernel
theorem dL_sound_666 : dec mL_sound 666 = .ok (.iconst 1, 1) := by decide +kernel
theorem dL_sound_667 : dec mL_sound 667 = .ok (.goto 4, 3) := by decide +kernel
theorem dL_sound_670 : dec mL_sound 670 = .ok (.iconst 0, 1) := by decide +kernel
theorem dL_sound_671 : dec mL_sound 671 = .ok (.ireturn, 1) := by decide +kernel
theorem dL_act_0 : dec mL_act 0 = .ok (.iload_n 1, 1) := by decide +kernel
theorem dL_act_1 : dec mL_act 1 = .ok (.bipush 16, 2) := by decide +kernel
theorem dL_act_3 : dec mL_act 3 = .ok (.idiv, 1) := by decide +kernel
theorem dL_act_4 : dec mL_act 4 = .ok (.istore_n 2, 1) := by decide +kernel
theorem dL_act_5 : dec mL_act 5 = .ok (.aload_n 0, 1) := by decide +kernel
theorem dL_act_6 : dec mL_act 6 = .ok (.iconst 2, 1) := by decide +kernel
theorem dL_act_7 : dec mL_act 7 = .ok (.iconst 2, 1) := by decide +kernel
theorem dL_act_8 : dec mL_act 8 = .ok (.iconst 0, 1) := by decide +kernel
theorem dL_act_9 : dec mL_act 9 = .ok (.iconst 0, 1) := by decide +kernel
theorem dL_act_10 : dec mL_act 10 = .ok (.invokestatic 168, 3) := by decide +kernel
theorem dL_act_13 : dec mL_act 13 = .ok (.istore_n 3, 1) := by decide +kernel
theorem dL_act_14 : dec mL_act 14 = .ok (.aload_n 0, 1) := by decide +kernel
theorem dL_act_15 : dec mL_act 15 = .ok (.iconst 2, 1) := by decide +kernel
theorem dL_act_16 : dec mL_act 16 = .ok (.iconst 3, 1) := by decide +kernel
theorem dL_act_17 : dec mL_act 17 = .ok (.iconst 0, 1) := by decide +kernel
theorem dL_act_18 : dec mL_act 18 = .ok (.iconst 0, 1) := by decide +kernel
theorem dL_act_19 : dec mL_act 19 = .ok (.invokestatic 168, 3) := by decide +kernel
theorem dL_act_22 : dec mL_act 22 = .ok (.istore 4, 2) := by decide +kernel
theorem dL_act_24 : dec mL_act 24 = .ok (.aload_n 0, 1) := by decide +kernel
theorem dL_act_25 : dec mL_act 25 = .ok (.iconst 2, 1) := by decide +kernel
theorem dL_act_26 : dec mL_act 26 = .ok (.iconst 4, 1) := by decide +kernel
theorem dL_act_27 : dec mL_act 27 = .ok (.iconst 0, 1) := by decide +kernel
theorem dL_act_28 : dec mL_act 28 = .ok (.iconst 0, 1) := by decide +kernel
theorem dL_act_29 : dec mL_act 29 = .ok (.invokestatic 168, 3) := by decide +kernel
theorem dL_act_32 : dec mL_act 32 = .ok (.istore 5, 2) := by decide +kernel
theorem dL_act_34 : dec mL_act 34 = .ok (.iload_n 1, 1) := by decide +kernel
theorem dL_act_35 : dec mL_act 35 = .ok (.bipush 16, 2) := by decide +kernel
theorem dL_act_37 : dec mL_act 37 = .ok (.irem, 1) := by decide +kernel
theorem dL_act_38 : dec mL_act 38 = .ok (.tableswitch 287 0 14 #[74, 119, 119, 119, 119, 144, 163, 176, 176, 195, 195, 213, 236, 241, 277], 74) := by decide +kernel
theorem dL_act_112 : dec mL_act 112 = .ok (.iload_n 2, 1) := by decide +kernel
theorem dL_act_113 : dec mL_act 113 = .ok (.iconst 4, 1) := by decide +kernel
theorem dL_act_114 : dec mL_act 114 = .ok (.irem, 1) := by decide +kernel
theorem dL_act_115 : dec mL_act 115 = .ok (.ifCond .ne 28, 3) := by decide +kernel
theorem dL_act_118 : dec mL_act 118 = .ok (.aload_n 0, 1) := by decide +kernel
theorem dL_act_119 : dec mL_act 119 = .ok (.bipush 6, 2) := by decide +kernel
theorem dL_act_121 : dec mL_act 121 = .ok (.iconst 2, 1) := by decide +kernel
theorem dL_act_122 : dec mL_act 122 = .ok (.iload_n 2, 1) := by decide +kernel
theorem dL_act_123 : dec mL_act 123 = .ok (.iconst 4, 1) := by decide +kernel
theorem dL_act_124 : dec mL_act 124 = .ok (.idiv, 1) := by decide +kernel
theorem dL_act_125 : dec mL_act 125 = .ok (.iconst 4, 1) := by decide +kernel
theorem dL_act_126 : dec mL_act 126 = .ok (.irem, 1) := by decide +kernel
theorem dL_act_127 : dec mL_act 127 = .ok (.iadd, 1) := by decide +kernel
theorem dL_act_128 : dec mL_act 128 = .ok (.iconst 1, 1) := by decide +kernel
theorem dL_act_129 : dec mL_act 129 = .ok (.iload_n 2, 1) := by decide +kernel
theorem dL_act_130 : dec mL_act 130 = .ok (.bipush 16, 2) := by decide +kernel
theorem dL_act_132 : dec mL_act 132 = .ok (.idiv, 1) := by decide +kernel
theorem dL_act_133 : dec mL_act 133 = .ok (.iconst 2, 1) := by decide +kernel
theorem dL_act_134 : dec mL_act 134 = .ok (.irem, 1) := by decide +kernel
theorem dL_act_135 : dec mL_act 135 = .ok (.iadd, 1) := by decide +kernel
theorem dL_act_136 : dec mL_act 136 = .ok (.iconst 0, 1) := by decide +kernel
theorem dL_act_137 : dec mL_act 137 = .ok (.invokestatic 168, 3) := by decide +kernel
theorem dL_act_140 : dec mL_act 140 = .ok (.goto 16, 3) := by decide +kernel
theorem dL_act_143 : dec mL_act 143 = .ok (.aload_n 0, 1) := by decide +kernel
theorem dL_act_144 : dec mL_act 144 = .ok (.bipush 12, 2) := by decide +kernel
theorem dL_act_146 : dec mL_act 146 = .ok (.iconst 1, 1) := by decide +kernel
theorem dL_act_147 : dec mL_act 147 = .ok (.iload_n 2, 1) := by decide +kernel
theorem dL_act_148 : dec mL_act 148 = .ok (.iconst 3, 1) := by decide +kernel
theorem dL_act_149 : dec mL_act 149 = .ok (.irem, 1) := by decide +kernel
theorem dL_act_150 : dec mL_act 150 = .ok (.iadd, 1) := by decide +kernel
theorem dL_act_151 : dec mL_act 151 = .ok (.iconst 0, 1) := by decide +kernel
theorem dL_act_152 : dec mL_act 152 = .ok (.iconst 0, 1) := by decide +kernel
theorem dL_act_153 : dec mL_act 153 = .ok (.invokestatic 168, 3) := by decide +kernel
theorem dL_act_156 : dec mL_act 156 = .ok (.ireturn, 1) := by decide +kernel
theorem dL_act_157 : dec mL_act 157 = .ok (.aload_n 0, 1) := by decide +kernel
theorem dL_act_158 : dec mL_act 158 = .ok (.bipush 7, 2) := by decide +kernel
theorem dL_act_160 : dec mL_act 160 = .ok (.iload_n 2, 1) := by decide +kernel
theorem dL_act_161 : dec mL_act 161 = .ok (.iload_n 3, 1) := by decide +kernel
theorem dL_act_162 : dec mL_act 162 = .ok (.irem, 1) := by decide +kernel
theorem dL_act_163 : dec mL_act 163 = .ok (.iload_n 2, 1) := by decide +kernel
theorem dL_act_164 : dec mL_act 164 = .ok (.bipush 8, 2) := by decide +kernel
theorem dL_act_166 : dec mL_act 166 = .ok (.idiv, 1) := by decide +kernel
theorem dL_act_167 : dec mL_act 167 = .ok (.iload 4, 2) := by decide +kernel
theorem dL_act_169 : dec mL_act 169 = .ok (.irem, 1) := by decide +kernel
theorem dL_act_170 : dec mL_act 170 = .ok (.iload_n 2, 1) := by decide +kernel
theorem dL_act_171 : dec mL_act 171 = .ok (.sipush 128, 3) := by decide +kernel
theorem dL_act_174 : dec mL_act 174 = .ok (.idiv, 1) := by decide +kernel
theorem dL_act_175 : dec mL_act 175 = .ok (.bipush 100, 2) := by decide +kernel
theorem dL_act_177 : dec mL_act 177 = .ok (.irem, 1) := by decide +kernel
theorem dL_act_178 : dec mL_act 178 = .ok (.invokestatic 168, 3) := by decide +kernel
theorem dL_act_181 : dec mL_act 181 = .ok (.ireturn, 1) := by decide +kernel
theorem dL_act_182 : dec mL_act 182 = .ok (.aload_n 0, 1) := by decide +kernel
theorem dL_act_183 : dec mL_act 183 = .ok (.bipush 8, 2) := by decide +kernel
theorem dL_act_185 : dec mL_act 185 = .ok (.iload_n 2, 1) := by decide +kernel
theorem dL_act_186 : dec mL_act 186 = .ok (.bipush 100, 2) := by decide +kernel
theorem dL_act_188 : dec mL_act 188 = .ok (.irem, 1) := by decide +kernel
theorem dL_act_189 : dec mL_act 189 = .ok (.iload_n 2, 1) := by decide +kernel
theorem dL_act_190 : dec mL_act 190 = .ok (.bipush 100, 2) := by decide +kernel
theorem dL_act_192 : dec mL_act 192 = .ok (.idiv, 1) := by decide +kernel
theorem dL_act_193 : dec mL_act 193 = .ok (.bipush 100, 2) := by decide +kernel
theorem dL_act_195 : dec mL_act 195 = .ok (.irem, 1) := by decide +kernel
theorem dL_act_196 : dec mL_act 196 = .ok (.iconst 0, 1) := by decide +kernel
theorem dL_act_197 : dec mL_act 197 = .ok (.invokestatic 168, 3) := by decide +kernel
theorem dL_act_200 : dec mL_act 200 = .ok (.ireturn, 1) := by decide +kernel
theorem dL_act_201 : dec mL_act 201 = .ok (.aload_n 0, 1) := by decide +kernel
theorem dL_act_202 : dec mL_act 202 = .ok (.bipush 9, 2) := by decide +kernel
theorem dL_act_204 : dec mL_act 204 = .ok (.iload_n 2, 1) := by decide +kernel
theorem dL_act_205 : dec mL_act 205 = .ok (.iload 5, 2) := by decide +kernel
theorem dL_act_207 : dec mL_act 207 = .ok (.irem, 1) := by decide +kernel
theorem dL_act_208 : dec mL_act 208 = .ok (.iconst 0, 1) := by decide +kernel
theorem dL_act_209 : dec mL_act 209 = .ok (.iconst 0, 1) := by decide +kernel
theorem dL_act_210 : dec mL_act 210 = .ok (.invokestatic 168, 3) := by decide +kernel
theorem dL_act_213 : dec mL_act 213 = .ok (.ireturn, 1) := by decide +kernel
theorem dL_act_214 : dec mL_act 214 = .ok (.aload_n 0, 1) := by decide +kernel
theorem dL_act_215 : dec mL_act 215 = .ok (.bipush 10, 2) := by decide +kernel
theorem dL_act_217 : dec mL_act 217 = .ok (.iload_n 2, 1) := by decide +kernel
theorem dL_act_218 : dec mL_act 218 = .ok (.iload 5, 2) := by decide +kernel
theorem dL_act_220 : dec mL_act 220 = .ok (.irem, 1) := by decide +kernel
theorem dL_act_221 : dec mL_act 221 = .ok (.iload_n 2, 1) := by decide +kernel
theorem dL_act_222 : dec mL_act 222 = .ok (.bipush 64, 2) := by decide +kernel
theorem dL_act_224 : dec mL_act 224 = .ok (.idiv, 1) := by decide +kernel
theorem dL_act_225 : dec mL_act 225 = .ok (.iload 5, 2) := by decide +kernel
theorem dL_act_227 : dec mL_act 227 = .ok (.irem, 1) := by decide +kernel
theorem dL_act_228 : dec mL_act 228 = .ok (.iconst 0, 1) := by decide +kernel
theorem dL_act_229 : dec mL_act 229 = .ok (.invokestatic 168, 3) := by decide +kernel
theorem dL_act_232 : dec mL_act 232 = .ok (.ireturn, 1) := by decide +kernel
theorem dL_act_233 : dec mL_act 233 = .ok (.aload_n 0, 1) := by decide +kernel
theorem dL_act_234 : dec mL_act 234 = .ok (.bipush 11, 2) := by decide +kernel
theorem dL_act_236 : dec mL_act 236 = .ok (.iload_n 2, 1) := by decide +kernel
theorem dL_act_237 : dec mL_act 237 = .ok (.iload_n 3, 1) := by decide +kernel
theorem dL_act_238 : dec mL_act 238 = .ok (.irem, 1) := by decide +kernel
theorem dL_act_239 : dec mL_act 239 = .ok (.iload_n 2, 1) := by decide +kernel
theorem dL_act_240 : dec mL_act 240 = .ok (.bipush 8, 2) := by decide +kernel
theorem dL_act_242 : dec mL_act 242 = .ok (.idiv, 1) := by decide +kernel
theorem dL_act_243 : dec mL_act 243 = .ok (.iload 4, 2) := by decide +kernel
theorem dL_act_245 : dec mL_act 245 = .ok (.irem, 1) := by decide +kernel
theorem dL_act_246 : dec mL_act 246 = .ok (.iconst 0, 1) := by decide +kernel
theorem dL_act_247 : dec mL_act 247 = .ok (.invokestatic 168, 3) := by decide +kernel
theorem dL_act_250 : dec mL_act 250 = .ok (.ireturn, 1) := by decide +kernel
theorem dL_act_251 : dec mL_act 251 = .ok (.aload_n 0, 1) := by decide +kernel
theorem dL_act_252 : dec mL_act 252 = .ok (.iload_n 2, 1) := by decide +kernel
theorem dL_act_253 : dec mL_act 253 = .ok (.iload 5, 2) := by decide +kernel
theorem dL_act_255 : dec mL_act 255 = .ok (.irem, 1) := by decide +kernel
theorem dL_act_256 : dec mL_act 256 = .ok (.iload_n 2, 1) := by decide +kernel
theorem dL_act_257 : dec mL_act 257 = .ok (.bipush 64, 2) := by decide +kernel
theorem dL_act_259 : dec mL_act 259 = .ok (.idiv, 1) := by decide +kernel
theorem dL_act_260 : dec mL_act 260 = .ok (.iconst 2, 1) := by decide +kernel
theorem dL_act_261 : dec mL_act 261 = .ok (.irem, 1) := by decide +kernel
theorem dL_act_262 : dec mL_act 262 = .ok (.ifCond .ne 7, 3) := by decide +kernel
theorem dL_act_265 : dec mL_act 265 = .ok (.iconst 1, 1) := by decide +kernel
theorem dL_act_266 : dec mL_act 266 = .ok (.goto 4, 3) := by decide +kernel
theorem dL_act_269 : dec mL_act 269 = .ok (.iconst 0, 1) := by decide +kernel
theorem dL_act_270 : dec mL_act 270 = .ok (.invokestatic 172, 3) := by decide +kernel
theorem dL_act_273 : dec mL_act 273 = .ok (.ireturn, 1) := by decide +kernel
theorem dL_act_274 : dec mL_act 274 = .ok (.aload_n 0, 1) := by decide +kernel
theorem dL_act_275 : dec mL_act 275 = .ok (.invokevirtual 189, 3) := by decide +kernel
theorem dL_act_278 : dec mL_act 278 = .ok (.ireturn, 1) := by decide +kernel
theorem dL_act_279 : dec mL_act 279 = .ok (.iload_n 2, 1) := by decide +kernel
theorem dL_act_280 : dec mL_act 280 = .ok (.iconst 2, 1) := by decide +kernel
theorem dL_act_281 : dec mL_act 281 = .ok (.irem, 1) := by decide +kernel
theorem dL_act_282 : dec mL_act 282 = .ok (.ifCond .ne 19, 3) := by decide +kernel
theorem dL_act_285 : dec mL_act 285 = .ok (.aload_n 0, 1) := by decide +kernel
theorem dL_act_286 : dec mL_act 286 = .ok (.bipush 19, 2) := by decide +kernel
theorem dL_act_288 : dec mL_act 288 = .ok (.iload_n 2, 1) := by decide +kernel
theorem dL_act_289 : dec mL_act 289 = .ok (.iconst 2, 1) := by decide +kernel
theorem dL_act_290 : dec mL_act 290 = .ok (.idiv, 1) := by decide +kernel
theorem dL_act_291 : dec mL_act 291 = .ok (.iconst 2, 1) := by decide +kernel
theorem dL_act_292 : dec mL_act 292 = .ok (.irem, 1) := by decide +kernel
theorem dL_act_293 : dec mL_act 293 = .ok (.iconst 0, 1) := by decide +kernel
theorem dL_act_294 : dec mL_act 294 = .ok (.iconst 0, 1) := by decide +kernel
theorem dL_act_295 : dec mL_act 295 = .ok (.invokestatic 168, 3) := by decide +kernel
theorem dL_act_298 : dec mL_act 298 = .ok (.goto 16, 3) := by decide +kernel
theorem dL_act_301 : dec mL_act 301 = .ok (.aload_n 0, 1) := by decide +kernel
theorem dL_act_302 : dec mL_act 302 = .ok (.bipush 20, 2) := by decide +kernel
theorem dL_act_304 : dec mL_act 304 = .ok (.iload_n 2, 1) := by decide +kernel
theorem dL_act_305 : dec mL_act 305 = .ok (.iconst 2, 1) := by decide +kernel
theorem dL_act_306 : dec mL_act 306 = .ok (.idiv, 1) := by decide +kernel
theorem dL_act_307 : dec mL_act 307 = .ok (.iconst 2, 1) := by decide +kernel
theorem dL_act_308 : dec mL_act 308 = .ok (.irem, 1) := by decide +kernel
theorem dL_act_309 : dec mL_act 309 = .ok (.iconst 0, 1) := by decide +kernel
theorem dL_act_310 : dec mL_act 310 = .ok (.iconst 0, 1) := by decide +kernel
theorem dL_act_311 : dec mL_act 311 = .ok (.invokestatic 168, 3) := by decide +kernel
theorem dL_act_314 : dec mL_act 314 = .ok (.ireturn, 1) := by decide +kernel
theorem dL_act_315 : dec mL_act 315 = .ok (.aload_n 0, 1) := by decide +kernel
theorem dL_act_316 : dec mL_act 316 = .ok (.bipush 13, 2) := by decide +kernel
theorem dL_act_318 : dec mL_act 318 = .ok (.iconst 0, 1) := by decide +kernel
theorem dL_act_319 : dec mL_act 319 = .ok (.iconst 0, 1) := by decide +kernel
theorem dL_act_320 : dec mL_act 320 = .ok (.iconst 0, 1) := by decide +kernel
theorem dL_act_321 : dec mL_act 321 = .ok (.invokestatic 168, 3) := by decide +kernel
theorem dL_act_324 : dec mL_act 324 = .ok (.ireturn, 1) := by decide +kernel
theorem dL_act_325 : dec mL_act 325 = .ok (.aload_n 0, 1) := by decide +kernel
theorem dL_act_326 : dec mL_act 326 = .ok (.bipush 12, 2) := by decide +kernel
theorem dL_act_328 : dec mL_act 328 = .ok (.iconst 1, 1) := by decide +kernel
theorem dL_act_329 : dec mL_act 329 = .ok (.iload_n 2, 1) := by decide +kernel
theorem dL_act_330 : dec mL_act 330 = .ok (.iconst 2, 1) := by decide +kernel
theorem dL_act_331 : dec mL_act 331 = .ok (.irem, 1) := by decide +kernel
theorem dL_act_332 : dec mL_act 332 = .ok (.iadd, 1) := by decide +kernel
theorem dL_act_333 : dec mL_act 333 = .ok (.iconst 0, 1) := by decide +kernel
theorem dL_act_334 : dec mL_act 334 = .ok (.iconst 0, 1) := by decide +kernel
theorem dL_act_335 : dec mL_act 335 = .ok (.invokestatic 168, 3) := by decide +kernel
theorem dL_act_338 : dec mL_act 338 = .ok (.ireturn, 1) := by decide +kernel
theorem dL_alike_0 : dec mL_alike 0 = .ok (.aload_n 0, 1) := by decide +kernel
theorem dL_alike_1 : dec mL_alike 1 = .ok (.iload_n 2, 1) := by decide +kernel
theorem dL_alike_2 : dec mL_alike 2 = .ok (.i2l, 1) := by decide +kernel
theorem dL_alike_3 : dec mL_alike 3 = .ok (.iconst 1, 1) := by decide +kernel
theorem dL_alike_4 : dec mL_alike 4 = .ok (.iload_n 2, 1) := by decide +kernel
theorem dL_alike_5 : dec mL_alike 5 = .ok (.iconst 3, 1) := by decide +kernel
theorem dL_alike_6 : dec mL_alike 6 = .ok (.irem, 1) := by decide +kernel
theorem dL_alike_7 : dec mL_alike 7 = .ok (.iadd, 1) := by decide +kernel
theorem dL_alike_8 : dec mL_alike 8 = .ok (.invokestatic 182, 3) := by decide +kernel
theorem dL_alike_11 : dec mL_alike 11 = .ok (.aload_n 1, 1) := by decide +kernel
theorem dL_alike_12 : dec mL_alike 12 = .ok (.iload_n 2, 1) := by decide +kernel
theorem dL_alike_13 : dec mL_alike 13 = .ok (.i2l, 1) := by decide +kernel
theorem dL_alike_14 : dec mL_alike 14 = .ok (.iconst 1, 1) := by decide +kernel
theorem dL_alike_15 : dec mL_alike 15 = .ok (.iload_n 2, 1) := by decide +kernel
theorem dL_alike_16 : dec mL_alike 16 = .ok (.iconst 3, 1) := by decide +kernel
theorem dL_alike_17 : dec mL_alike 17 = .ok (.irem, 1) := by decide +kernel
theorem dL_alike_18 : dec mL_alike 18 = .ok (.iadd, 1) := by decide +kernel
theorem dL_alike_19 : dec mL_alike 19 = .ok (.invokestatic 182, 3) := by decide +kernel
theorem dL_alike_22 : dec mL_alike 22 = .ok (.if_icmp .ne 39, 3) := by decide +kernel
theorem dL_alike_25 : dec mL_alike 25 = .ok (.aload_n 0, 1) := by decide +kernel
theorem dL_alike_26 : dec mL_alike 26 = .ok (.invokevirtual 186, 3) := by decide +kernel
theorem dL_alike_29 : dec mL_alike 29 = .ok (.aload_n 1, 1) := by decide +kernel
theorem dL_alike_30 : dec mL_alike 30 = .ok (.invokevirtual 186, 3) := by decide +kernel
theorem dL_alike_33 : dec mL_alike 33 = .ok (.if_icmp .ne 28, 3) := by decide +kernel
theorem dL_alike_36 : dec mL_alike 36 = .ok (.aload_n 0, 1) := by decide +kernel
theorem dL_alike_37 : dec mL_alike 37 = .ok (.bipush 15, 2) := by decide +kernel
theorem dL_alike_39 : dec mL_alike 39 = .ok (.iconst 0, 1) := by decide +kernel
theorem dL_alike_40 : dec mL_alike 40 = .ok (.iconst 0, 1) := by decide +kernel
theorem dL_alike_41 : dec mL_alike 41 = .ok (.iconst 0, 1) := by decide +kernel
theorem dL_alike_42 : dec mL_alike 42 = .ok (.invokestatic 168, 3) := by decide +kernel
theorem dL_alike_45 : dec mL_alike 45 = .ok (.aload_n 1, 1) := by decide +kernel
theorem dL_alike_46 : dec mL_alike 46 = .ok (.bipush 15, 2) := by decide +kernel
theorem dL_alike_48 : dec mL_alike 48 = .ok (.iconst 0, 1) := by decide +kernel
theorem dL_alike_49 : dec mL_alike 49 = .ok (.iconst 0, 1) := by decide +kernel
theorem dL_alike_50 : dec mL_alike 50 = .ok (.iconst 0, 1) := by decide +kernel
theorem dL_alike_51 : dec mL_alike 51 = .ok (.invokestatic 168, 3) := by decide +kernel
theorem dL_alike_54 : dec mL_alike 54 = .ok (.if_icmp .ne 7, 3) := by decide +kernel
theorem dL_alike_57 : dec mL_alike 57 = .ok (.iconst 1, 1) := by decide +kernel
theorem dL_alike_58 : dec mL_alike 58 = .ok (.goto 4, 3) := by decide +kernel
theorem dL_alike_61 : dec mL_alike 61 = .ok (.iconst 0, 1) := by decide +kernel
theorem dL_alike_62 : dec mL_alike 62 = .ok (.istore_n 3, 1) := by decide +kernel
theorem dL_alike_63 : dec mL_alike 63 = .ok (.iconst 0, 1) := by decide +kernel
theorem dL_alike_64 : dec mL_alike 64 = .ok (.istore 4, 2) := by decide +kernel
theorem dL_alike_66 : dec mL_alike 66 = .ok (.iload 4, 2) := by decide +kernel
theorem dL_alike_68 : dec mL_alike 68 = .ok (.bipush 11, 2) := by decide +kernel
theorem dL_alike_70 : dec mL_alike 70 = .ok (.if_icmp .ge 152, 3) := by decide +kernel
theorem dL_alike_73 : dec mL_alike 73 = .ok (.iload_n 3, 1) := by decide +kernel
theorem dL_alike_74 : dec mL_alike 74 = .ok (.ifCond .eq 148, 3) := by decide +kernel
theorem dL_alike_77 : dec mL_alike 77 = .ok (.aload_n 0, 1) := by decide +kernel
theorem dL_alike_78 : dec mL_alike 78 = .ok (.iconst 2, 1) := by decide +kernel
theorem dL_alike_79 : dec mL_alike 79 = .ok (.iload 4, 2) := by decide +kernel
theorem dL_alike_81 : dec mL_alike 81 = .ok (.iconst 0, 1) := by decide +kernel
theorem dL_alike_82 : dec mL_alike 82 = .ok (.iconst 0, 1) := by decide +kernel
theorem dL_alike_83 : dec mL_alike 83 = .ok (.invokestatic 168, 3) := by decide +kernel
theorem dL_alike_86 : dec mL_alike 86 = .ok (.aload_n 1, 1) := by decide +kernel
theorem dL_alike_87 : dec mL_alike 87 = .ok (.iconst 2, 1) := by decide +kernel
theorem dL_alike_88 : dec mL_alike 88 = .ok (.iload 4, 2) := by decide +kernel
theorem dL_alike_90 : dec mL_alike 90 = .ok (.iconst 0, 1) := by decide +kernel
theorem dL_alike_91 : dec mL_alike 91 = .ok (.iconst 0, 1) := by decide +kernel
theorem dL_alike_92 : dec mL_alike 92 = .ok (.invokestatic 168, 3) := by decide +kernel
theorem dL_alike_95 : dec mL_alike 95 = .ok (.if_icmp .ne 119, 3) := by decide +kernel
theorem dL_alike_98 : dec mL_alike 98 = .ok (.aload_n 0, 1) := by decide +kernel
theorem dL_alike_99 : dec mL_alike 99 = .ok (.iconst 3, 1) := by decide +kernel
theorem dL_alike_100 : dec mL_alike 100 = .ok (.iload 4, 2) := by decide +kernel
theorem dL_alike_102 : dec mL_alike 102 = .ok (.iconst 4, 1) := by decide +kernel
theorem dL_alike_103 : dec mL_alike 103 = .ok (.irem, 1) := by decide +kernel
theorem dL_alike_104 : dec mL_alike 104 = .ok (.iload_n 2, 1) := by decide +kernel
theorem dL_alike_105 : dec mL_alike 105 = .ok (.iconst 3, 1) := by decide +kernel
theorem dL_alike_106 : dec mL_alike 106 = .ok (.irem, 1) := by decide +kernel
theorem dL_alike_107 : dec mL_alike 107 = .ok (.iload_n 2, 1) := by decide +kernel
theorem dL_alike_108 : dec mL_alike 108 = .ok (.iconst 5, 1) := by decide +kernel
theorem dL_alike_109 : dec mL_alike 109 = .ok (.irem, 1) := by decide +kernel
theorem dL_alike_110 : dec mL_alike 110 = .ok (.invokestatic 168, 3) := by decide +kernel
theorem dL_alike_113 : dec mL_alike 113 = .ok (.aload_n 1, 1) := by decide +kernel
theorem dL_alike_114 : dec mL_alike 114 = .ok (.iconst 3, 1) := by decide +kernel
theorem dL_alike_115 : dec mL_alike 115 = .ok (.iload 4, 2) := by decide +kernel
theorem dL_alike_117 : dec mL_alike 117 = .ok (.iconst 4, 1) := by decide +kernel
theorem dL_alike_118 : dec mL_alike 118 = .ok (.irem, 1) := by decide +kernel
theorem dL_alike_119 : dec mL_alike 119 = .ok (.iload_n 2, 1) := by decide +kernel
theorem dL_alike_120 : dec mL_alike 120 = .ok (.iconst 3, 1) := by decide +kernel
theorem dL_alike_121 : dec mL_alike 121 = .ok (.irem, 1) := by decide +kernel
theorem dL_alike_122 : dec mL_alike 122 = .ok (.iload_n 2, 1) := by decide +kernel
theorem dL_alike_123 : dec mL_alike 123 = .ok (.iconst 5, 1) := by decide +kernel
theorem dL_alike_124 : dec mL_alike 124 = .ok (.irem, 1) := by decide +kernel
theorem dL_alike_125 : dec mL_alike 125 = .ok (.invokestatic 168, 3) := by decide +kernel
theorem dL_alike_128 : dec mL_alike 128 = .ok (.if_icmp .ne 86, 3) := by decide +kernel
theorem dL_alike_131 : dec mL_alike 131 = .ok (.aload_n 0, 1) := by decide +kernel
theorem dL_alike_132 : dec mL_alike 132 = .ok (.iconst 4, 1) := by decide +kernel
theorem dL_alike_133 : dec mL_alike 133 = .ok (.iconst 3, 1) := by decide +kernel
theorem dL_alike_134 : dec mL_alike 134 = .ok (.iload 4, 2) := by decide +kernel
theorem dL_alike_136 : dec mL_alike 136 = .ok (.imul, 1) := by decide +kernel
theorem dL_alike_137 : dec mL_alike 137 = .ok (.iload_n 2, 1) := by decide +kernel
theorem dL_alike_138 : dec mL_alike 138 = .ok (.bipush 7, 2) := by decide +kernel
theorem dL_alike_140 : dec mL_alike 140 = .ok (.irem, 1) := by decide +kernel
theorem dL_alike_141 : dec mL_alike 141 = .ok (.iconst 0, 1) := by decide +kernel
theorem dL_alike_142 : dec mL_alike 142 = .ok (.invokestatic 168, 3) := by decide +kernel
theorem dL_alike_145 : dec mL_alike 145 = .ok (.aload_n 1, 1) := by decide +kernel
theorem dL_alike_146 : dec mL_alike 146 = .ok (.iconst 4, 1) := by decide +kernel
theorem dL_alike_147 : dec mL_alike 147 = .ok (.iconst 3, 1) := by decide +kernel
theorem dL_alike_148 : dec mL_alike 148 = .ok (.iload 4, 2) := by decide +kernel
theorem dL_alike_150 : dec mL_alike 150 = .ok (.imul, 1) := by decide +kernel
theorem dL_alike_151 : dec mL_alike 151 = .ok (.iload_n 2, 1) := by decide +kernel
theorem dL_alike_152 : dec mL_alike 152 = .ok (.bipush 7, 2) := by decide +kernel
theorem dL_alike_154 : dec mL_alike 154 = .ok (.irem, 1) := by decide +kernel
theorem dL_alike_155 : dec mL_alike 155 = .ok (.iconst 0, 1) := by decide +kernel
theorem dL_alike_156 : dec mL_alike 156 = .ok (.invokestatic 168, 3) := by decide +kernel
theorem dL_alike_159 : dec mL_alike 159 = .ok (.if_icmp .ne 55, 3) := by decide +kernel
theorem dL_alike_162 : dec mL_alike 162 = .ok (.aload_n 0, 1) := by decide +kernel
theorem dL_alike_163 : dec mL_alike 163 = .ok (.iconst 5, 1) := by decide +kernel
theorem dL_alike_164 : dec mL_alike 164 = .ok (.iconst 2, 1) := by decide +kernel
theorem dL_alike_165 : dec mL_alike 165 = .ok (.iload 4, 2) := by decide +kernel
theorem dL_alike_167 : dec mL_alike 167 = .ok (.imul, 1) := by decide +kernel
theorem dL_alike_168 : dec mL_alike 168 = .ok (.iconst 2, 1) := by decide +kernel
theorem dL_alike_169 : dec mL_alike 169 = .ok (.iconst 0, 1) := by decide +kernel
theorem dL_alike_170 : dec mL_alike 170 = .ok (.invokestatic 168, 3) := by decide +kernel
theorem dL_alike_173 : dec mL_alike 173 = .ok (.aload_n 1, 1) := by decide +kernel
theorem dL_alike_174 : dec mL_alike 174 = .ok (.iconst 5, 1) := by decide +kernel
theorem dL_alike_175 : dec mL_alike 175 = .ok (.iconst 2, 1) := by decide +kernel
theorem dL_alike_176 : dec mL_alike 176 = .ok (.iload 4, 2) := by decide +kernel
theorem dL_alike_178 : dec mL_alike 178 = .ok (.imul, 1) := by decide +kernel
theorem dL_alike_179 : dec mL_alike 179 = .ok (.iconst 2, 1) := by decide +kernel
theorem dL_alike_180 : dec mL_alike 180 = .ok (.iconst 0, 1) := by decide +kernel
theorem dL_alike_181 : dec mL_alike 181 = .ok (.invokestatic 168, 3) := by decide +kernel
theorem dL_alike_184 : dec mL_alike 184 = .ok (.if_icmp .ne 30, 3) := by decide +kernel
theorem dL_alike_187 : dec mL_alike 187 = .ok (.aload_n 0, 1) := by decide +kernel
theorem dL_alike_188 : dec mL_alike 188 = .ok (.bipush 17, 2) := by decide +kernel
theorem dL_alike_190 : dec mL_alike 190 = .ok (.iload 4, 2) := by decide +kernel
theorem dL_alike_192 : dec mL_alike 192 = .ok (.iconst 0, 1) := by decide +kernel
theorem dL_alike_193 : dec mL_alike 193 = .ok (.iconst 0, 1) := by decide +kernel
theorem dL_alike_194 : dec mL_alike 194 = .ok (.invokestatic 168, 3) := by decide +kernel
theorem dL_alike_197 : dec mL_alike 197 = .ok (.aload_n 1, 1) := by decide +kernel
theorem dL_alike_198 : dec mL_alike 198 = .ok (.bipush 17, 2) := by decide +kernel
theorem dL_alike_200 : dec mL_alike 200 = .ok (.iload 4, 2) := by decide +kernel
theorem dL_alike_202 : dec mL_alike 202 = .ok (.iconst 0, 1) := by decide +kernel
theorem dL_alike_203 : dec mL_alike 203 = .ok (.iconst 0, 1) := by decide +kernel
theorem dL_alike_204 : dec mL_alike 204 = .ok (.invokestatic 168, 3) := by decide +kernel
theorem dL_alike_207 : dec mL_alike 207 = .ok (.if_icmp .ne 7, 3) := by decide +kernel
theorem dL_alike_210 : dec mL_alike 210 = .ok (.iconst 1, 1) := by decide +kernel
theorem dL_alike_211 : dec mL_alike 211 = .ok (.goto 4, 3) := by decide +kernel
theorem dL_alike_214 : dec mL_alike 214 = .ok (.iconst 0, 1) := by decide +kernel
theorem dL_alike_215 : dec mL_alike 215 = .ok (.istore_n 3, 1) := by decide +kernel
theorem dL_alike_216 : dec mL_alike 216 = .ok (.iinc 4 1, 3) := by decide +kernel
theorem dL_alike_219 : dec mL_alike 219 = .ok (.goto (-153), 3) := by decide +kernel
theorem dL_alike_222 : dec mL_alike 222 = .ok (.iload_n 3, 1) := by decide +kernel
theorem dL_alike_223 : dec mL_alike 223 = .ok (.ireturn, 1) := by decide +kernel
theorem dL_law_0 : dec mL_law 0 = .ok (.new 8, 3) := by decide +kernel
theorem dL_law_3 : dec mL_law 3 = .ok (.dup, 1) := by decide +kernel
theorem dL_law_4 : dec mL_law 4 = .ok (.invokespecial 192, 3) := by decide +kernel
theorem dL_law_7 : dec mL_law 7 = .ok (.astore_n 1, 1) := by decide +kernel
theorem dL_law_8 : dec mL_law 8 = .ok (.new 8, 3) := by decide +kernel
theorem dL_law_11 : dec mL_law 11 = .ok (.dup, 1) := by decide +kernel
theorem dL_law_12 : dec mL_law 12 = .ok (.invokespecial 192, 3) := by decide +kernel
theorem dL_law_15 : dec mL_law 15 = .ok (.astore_n 2, 1) := by decide +kernel
theorem dL_law_16 : dec mL_law 16 = .ok (.bipush 8, 2) := by decide +kernel
theorem dL_law_18 : dec mL_law 18 = .ok (.aload_n 0, 1) := by decide +kernel
theorem dL_law_19 : dec mL_law 19 = .ok (.iconst 0, 1) := by decide +kernel
theorem dL_law_20 : dec mL_law 20 = .ok (.invokestatic 193, 3) := by decide +kernel
theorem dL_law_23 : dec mL_law 23 = .ok (.bipush 15, 2) := by decide +kernel
theorem dL_law_25 : dec mL_law 25 = .ok (.irem, 1) := by decide +kernel
theorem dL_law_26 : dec mL_law 26 = .ok (.iadd, 1) := by decide +kernel
theorem dL_law_27 : dec mL_law 27 = .ok (.istore_n 3, 1) := by decide +kernel
theorem dL_law_28 : dec mL_law 28 = .ok (.iconst 1, 1) := by decide +kernel
theorem dL_law_29 : dec mL_law 29 = .ok (.istore 4, 2) := by decide +kernel
theorem dL_law_31 : dec mL_law 31 = .ok (.iconst 0, 1) := by decide +kernel
theorem dL_law_32 : dec mL_law 32 = .ok (.istore 5, 2) := by decide +kernel
theorem dL_law_34 : dec mL_law 34 = .ok (.iload 5, 2) := by decide +kernel
theorem dL_law_36 : dec mL_law 36 = .ok (.iload_n 3, 1) := by decide +kernel
theorem dL_law_37 : dec mL_law 37 = .ok (.if_icmp .ge 158, 3) := by decide +kernel
theorem dL_law_40 : dec mL_law 40 = .ok (.iload 4, 2) := by decide +kernel
theorem dL_law_42 : dec mL_law 42 = .ok (.ifCond .eq 153, 3) := by decide +kernel
theorem dL_law_45 : dec mL_law 45 = .ok (.aload_n 0, 1) := by decide +kernel
theorem dL_law_46 : dec mL_law 46 = .ok (.iconst 1, 1) := by decide +kernel
theorem dL_law_47 : dec mL_law 47 = .ok (.iload 5, 2) := by decide +kernel
theorem dL_law_49 : dec mL_law 49 = .ok (.iadd, 1) := by decide +kernel
theorem dL_law_50 : dec mL_law 50 = .ok (.invokestatic 193, 3) := by decide +kernel
theorem dL_law_53 : dec mL_law 53 = .ok (.istore 6, 2) := by decide +kernel
theorem dL_law_55 : dec mL_law 55 = .ok (.aload_n 1, 1) := by decide +kernel
theorem dL_law_56 : dec mL_law 56 = .ok (.iload 6, 2) := by decide +kernel
theorem dL_law_58 : dec mL_law 58 = .ok (.invokestatic 197, 3) := by decide +kernel
theorem dL_law_61 : dec mL_law 61 = .ok (.istore 7, 2) := by decide +kernel
theorem dL_law_63 : dec mL_law 63 = .ok (.aload_n 2, 1) := by decide +kernel
theorem dL_law_64 : dec mL_law 64 = .ok (.iload 6, 2) := by decide +kernel
theorem dL_law_66 : dec mL_law 66 = .ok (.ldc 200, 2) := by decide +kernel
theorem dL_law_68 : dec mL_law 68 = .ok (.irem, 1) := by decide +kernel
theorem dL_law_69 : dec mL_law 69 = .ok (.invokestatic 201, 3) := by decide +kernel
theorem dL_law_72 : dec mL_law 72 = .ok (.ifCond .eq 114, 3) := by decide +kernel
theorem dL_law_75 : dec mL_law 75 = .ok (.aload_n 2, 1) := by decide +kernel
theorem dL_law_76 : dec mL_law 76 = .ok (.iload 6, 2) := by decide +kernel
theorem dL_law_78 : dec mL_law 78 = .ok (.invokestatic 197, 3) := by decide +kernel
theorem dL_law_81 : dec mL_law 81 = .ok (.iload 7, 2) := by decide +kernel
theorem dL_law_83 : dec mL_law 83 = .ok (.if_icmp .ne 103, 3) := by decide +kernel
theorem dL_law_86 : dec mL_law 86 = .ok (.aload_n 1, 1) := by decide +kernel
theorem dL_law_87 : dec mL_law 87 = .ok (.aload_n 2, 1) := by decide +kernel
theorem dL_law_88 : dec mL_law 88 = .ok (.iload 6, 2) := by decide +kernel
theorem dL_law_90 : dec mL_law 90 = .ok (.sipush 5000, 3) := by decide +kernel
theorem dL_law_93 : dec mL_law 93 = .ok (.irem, 1) := by decide +kernel
theorem dL_law_94 : dec mL_law 94 = .ok (.invokestatic 205, 3) := by decide +kernel
theorem dL_law_97 : dec mL_law 97 = .ok (.ifCond .eq 89, 3) := by decide +kernel
theorem dL_law_100 : dec mL_law 100 = .ok (.iload 5, 2) := by decide +kernel
theorem dL_law_102 : dec mL_law 102 = .ok (.iconst 2, 1) := by decide +kernel
theorem dL_law_103 : dec mL_law 103 = .ok (.irem, 1) := by decide +kernel
theorem dL_law_104 : dec mL_law 104 = .ok (.ifCond .ne 13, 3) := by decide +kernel
theorem dL_law_107 : dec mL_law 107 = .ok (.aload_n 1, 1) := by decide +kernel
theorem dL_law_108 : dec mL_law 108 = .ok (.invokestatic 209, 3) := by decide +kernel
theorem dL_law_111 : dec mL_law 111 = .ok (.ifCond .eq 75, 3) := by decide +kernel
theorem dL_law_114 : dec mL_law 114 = .ok (.goto 10, 3) := by decide +kernel
theorem dL_law_117 : dec mL_law 117 = .ok (.aload_n 2, 1) := by decide +kernel
theorem dL_law_118 : dec mL_law 118 = .ok (.invokestatic 209, 3) := by decide +kernel
theorem dL_law_121 : dec mL_law 121 = .ok (.ifCond .eq 65, 3) := by decide +kernel
theorem dL_law_124 : dec mL_law 124 = .ok (.aload_n 1, 1) := by decide +kernel
theorem dL_law_125 : dec mL_law 125 = .ok (.aload_n 2, 1) := by decide +kernel
theorem dL_law_126 : dec mL_law 126 = .ok (.iload 6, 2) := by decide +kernel
theorem dL_law_128 : dec mL_law 128 = .ok (.bipush 7, 2) := by decide +kernel
theorem dL_law_130 : dec mL_law 130 = .ok (.idiv, 1) := by decide +kernel
theorem dL_law_131 : dec mL_law 131 = .ok (.invokestatic 213, 3) := by decide +kernel
theorem dL_law_134 : dec mL_law 134 = .ok (.ifCond .eq 52, 3) := by decide +kernel
theorem dL_law_137 : dec mL_law 137 = .ok (.iload 5, 2) := by decide +kernel
theorem dL_law_139 : dec mL_law 139 = .ok (.iconst 2, 1) := by decide +kernel
theorem dL_law_140 : dec mL_law 140 = .ok (.irem, 1) := by decide +kernel
theorem dL_law_141 : dec mL_law 141 = .ok (.ifCond .gt 16, 3) := by decide +kernel
theorem dL_law_144 : dec mL_law 144 = .ok (.aload_n 1, 1) := by decide +kernel
theorem dL_law_145 : dec mL_law 145 = .ok (.aload_n 2, 1) := by decide +kernel
theorem dL_law_146 : dec mL_law 146 = .ok (.iload 6, 2) := by decide +kernel
theorem dL_law_148 : dec mL_law 148 = .ok (.bipush 11, 2) := by decide +kernel
theorem dL_law_150 : dec mL_law 150 = .ok (.idiv, 1) := by decide +kernel
theorem dL_law_151 : dec mL_law 151 = .ok (.invokestatic 216, 3) := by decide +kernel
theorem dL_law_154 : dec mL_law 154 = .ok (.ifCond .eq 32, 3) := by decide +kernel
theorem dL_law_157 : dec mL_law 157 = .ok (.iload 5, 2) := by decide +kernel
theorem dL_law_159 : dec mL_law 159 = .ok (.iconst 3, 1) := by decide +kernel
theorem dL_law_160 : dec mL_law 160 = .ok (.irem, 1) := by decide +kernel
theorem dL_law_161 : dec mL_law 161 = .ok (.iconst 2, 1) := by decide +kernel
theorem dL_law_162 : dec mL_law 162 = .ok (.if_icmp .lt 20, 3) := by decide +kernel
theorem dL_law_165 : dec mL_law 165 = .ok (.aload_n 1, 1) := by decide +kernel
theorem dL_law_166 : dec mL_law 166 = .ok (.aload_n 2, 1) := by decide +kernel
theorem dL_law_167 : dec mL_law 167 = .ok (.iconst 1, 1) := by decide +kernel
theorem dL_law_168 : dec mL_law 168 = .ok (.iload 6, 2) := by decide +kernel
theorem dL_law_170 : dec mL_law 170 = .ok (.bipush 13, 2) := by decide +kernel
theorem dL_law_172 : dec mL_law 172 = .ok (.idiv, 1) := by decide +kernel
theorem dL_law_173 : dec mL_law 173 = .ok (.iconst 4, 1) := by decide +kernel
theorem dL_law_174 : dec mL_law 174 = .ok (.irem, 1) := by decide +kernel
theorem dL_law_175 : dec mL_law 175 = .ok (.iadd, 1) := by decide +kernel
theorem dL_law_176 : dec mL_law 176 = .ok (.invokestatic 218, 3) := by decide +kernel
theorem dL_law_179 : dec mL_law 179 = .ok (.ifCond .eq 7, 3) := by decide +kernel
theorem dL_law_182 : dec mL_law 182 = .ok (.iconst 1, 1) := by decide +kernel
theorem dL_law_183 : dec mL_law 183 = .ok (.goto 4, 3) := by decide +kernel
theorem dL_law_186 : dec mL_law 186 = .ok (.iconst 0, 1) := by decide +kernel
theorem dL_law_187 : dec mL_law 187 = .ok (.istore 4, 2) := by decide +kernel
theorem dL_law_189 : dec mL_law 189 = .ok (.iinc 5 1, 3) := by decide +kernel
theorem dL_law_192 : dec mL_law 192 = .ok (.goto (-158), 3) := by decide +kernel
theorem dL_law_195 : dec mL_law 195 = .ok (.iload 4, 2) := by decide +kernel
theorem dL_law_197 : dec mL_law 197 = .ok (.ireturn, 1) := by decide +kernel
theorem dL_gains_0 : dec mL_gains 0 = .ok (.aload_n 0, 1) := by decide +kernel
theorem dL_gains_1 : dec mL_gains 1 = .ok (.iconst 2, 1) := by decide +kernel
theorem dL_gains_2 : dec mL_gains 2 = .ok (.iconst 4, 1) := by decide +kernel
theorem dL_gains_3 : dec mL_gains 3 = .ok (.iconst 0, 1) := by decide +kernel
theorem dL_gains_4 : dec mL_gains 4 = .ok (.iconst 0, 1) := by decide +kernel
theorem dL_gains_5 : dec mL_gains 5 = .ok (.invokestatic 168, 3) := by decide +kernel
theorem dL_gains_8 : dec mL_gains 8 = .ok (.istore_n 3, 1) := by decide +kernel
theorem dL_gains_9 : dec mL_gains 9 = .ok (.aload_n 0, 1) := by decide +kernel
theorem dL_gains_10 : dec mL_gains 10 = .ok (.iconst 2, 1) := by decide +kernel
theorem dL_gains_11 : dec mL_gains 11 = .ok (.iconst 2, 1) := by decide +kernel
theorem dL_gains_12 : dec mL_gains 12 = .ok (.iconst 0, 1) := by decide +kernel
theorem dL_gains_13 : dec mL_gains 13 = .ok (.iconst 0, 1) := by decide +kernel
theorem dL_gains_14 : dec mL_gains 14 = .ok (.invokestatic 168, 3) := by decide +kernel
theorem dL_gains_17 : dec mL_gains 17 = .ok (.istore 4, 2) := by decide +kernel
theorem dL_gains_19 : dec mL_gains 19 = .ok (.iload_n 2, 1) := by decide +kernel
theorem dL_gains_20 : dec mL_gains 20 = .ok (.iload_n 3, 1) := by decide +kernel
theorem dL_gains_21 : dec mL_gains 21 = .ok (.irem, 1) := by decide +kernel
theorem dL_gains_22 : dec mL_gains 22 = .ok (.istore 5, 2) := by decide +kernel
theorem dL_gains_24 : dec mL_gains 24 = .ok (.iload_n 2, 1) := by decide +kernel
theorem dL_gains_25 : dec mL_gains 25 = .ok (.bipush 64, 2) := by decide +kernel
theorem dL_gains_27 : dec mL_gains 27 = .ok (.idiv, 1) := by decide +kernel
theorem dL_gains_28 : dec mL_gains 28 = .ok (.iload_n 3, 1) := by decide +kernel
theorem dL_gains_29 : dec mL_gains 29 = .ok (.irem, 1) := by decide +kernel
theorem dL_gains_30 : dec mL_gains 30 = .ok (.istore 6, 2) := by decide +kernel
theorem dL_gains_32 : dec mL_gains 32 = .ok (.aload_n 0, 1) := by decide +kernel
theorem dL_gains_33 : dec mL_gains 33 = .ok (.iconst 2, 1) := by decide +kernel
theorem dL_gains_34 : dec mL_gains 34 = .ok (.iconst 5, 1) := by decide +kernel
theorem dL_gains_35 : dec mL_gains 35 = .ok (.iconst 0, 1) := by decide +kernel
theorem dL_gains_36 : dec mL_gains 36 = .ok (.iconst 0, 1) := by decide +kernel
theorem dL_gains_37 : dec mL_gains 37 = .ok (.invokestatic 168, 3) := by decide +kernel
theorem dL_gains_40 : dec mL_gains 40 = .ok (.istore 7, 2) := by decide +kernel
theorem dL_gains_42 : dec mL_gains 42 = .ok (.aload_n 0, 1) := by decide +kernel
theorem dL_gains_43 : dec mL_gains 43 = .ok (.bipush 14, 2) := by decide +kernel
theorem dL_gains_45 : dec mL_gains 45 = .ok (.iload 5, 2) := by decide +kernel
theorem dL_gains_47 : dec mL_gains 47 = .ok (.iconst 0, 1) := by decide +kernel
theorem dL_gains_48 : dec mL_gains 48 = .ok (.iconst 0, 1) := by decide +kernel
theorem dL_gains_49 : dec mL_gains 49 = .ok (.invokestatic 168, 3) := by decide +kernel
theorem dL_gains_52 : dec mL_gains 52 = .ok (.istore 8, 2) := by decide +kernel
theorem dL_gains_54 : dec mL_gains 54 = .ok (.aload_n 0, 1) := by decide +kernel
theorem dL_gains_55 : dec mL_gains 55 = .ok (.bipush 9, 2) := by decide +kernel
theorem dL_gains_57 : dec mL_gains 57 = .ok (.iload 5, 2) := by decide +kernel
theorem dL_gains_59 : dec mL_gains 59 = .ok (.iconst 0, 1) := by decide +kernel
theorem dL_gains_60 : dec mL_gains 60 = .ok (.iconst 0, 1) := by decide +kernel
theorem dL_gains_61 : dec mL_gains 61 = .ok (.invokestatic 168, 3) := by decide +kernel
theorem dL_gains_64 : dec mL_gains 64 = .ok (.istore 9, 2) := by decide +kernel
theorem dL_gains_66 : dec mL_gains 66 = .ok (.aload_n 1, 1) := by decide +kernel
theorem dL_gains_67 : dec mL_gains 67 = .ok (.bipush 9, 2) := by decide +kernel
theorem dL_gains_69 : dec mL_gains 69 = .ok (.iload 5, 2) := by decide +kernel
theorem dL_gains_71 : dec mL_gains 71 = .ok (.iconst 0, 1) := by decide +kernel
theorem dL_gains_72 : dec mL_gains 72 = .ok (.iconst 0, 1) := by decide +kernel
theorem dL_gains_73 : dec mL_gains 73 = .ok (.invokestatic 168, 3) := by decide +kernel
theorem dL_gains_76 : dec mL_gains 76 = .ok (.iload 9, 2) := by decide +kernel
theorem dL_gains_78 : dec mL_gains 78 = .ok (.if_icmp .ne 40, 3) := by decide +kernel
theorem dL_gains_81 : dec mL_gains 81 = .ok (.iload 9, 2) := by decide +kernel
theorem dL_gains_83 : dec mL_gains 83 = .ok (.ldc 33, 2) := by decide +kernel
theorem dL_gains_85 : dec mL_gains 85 = .ok (.if_icmp .ne 7, 3) := by decide +kernel
theorem dL_gains_88 : dec mL_gains 88 = .ok (.iconst 1, 1) := by decide +kernel
theorem dL_gains_89 : dec mL_gains 89 = .ok (.goto 4, 3) := by decide +kernel
theorem dL_gains_92 : dec mL_gains 92 = .ok (.iconst 0, 1) := by decide +kernel
theorem dL_gains_93 : dec mL_gains 93 = .ok (.aload_n 0, 1) := by decide +kernel
theorem dL_gains_94 : dec mL_gains 94 = .ok (.iconst 4, 1) := by decide +kernel
theorem dL_gains_95 : dec mL_gains 95 = .ok (.iload 5, 2) := by decide +kernel
theorem dL_gains_97 : dec mL_gains 97 = .ok (.iconst 5, 1) := by decide +kernel
theorem dL_gains_98 : dec mL_gains 98 = .ok (.iconst 0, 1) := by decide +kernel
theorem dL_gains_99 : dec mL_gains 99 = .ok (.invokestatic 168, 3) := by decide +kernel
theorem dL_gains_102 : dec mL_gains 102 = .ok (.iconst 1, 1) := by decide +kernel
theorem dL_gains_103 : dec mL_gains 103 = .ok (.if_icmp .ne 7, 3) := by decide +kernel
theorem dL_gains_106 : dec mL_gains 106 = .ok (.iconst 1, 1) := by decide +kernel
theorem dL_gains_107 : dec mL_gains 107 = .ok (.goto 4, 3) := by decide +kernel
theorem dL_gains_110 : dec mL_gains 110 = .ok (.iconst 0, 1) := by decide +kernel
theorem dL_gains_111 : dec mL_gains 111 = .ok (.if_icmp .ne 7, 3) := by decide +kernel
theorem dL_gains_114 : dec mL_gains 114 = .ok (.iconst 1, 1) := by decide +kernel
theorem dL_gains_115 : dec mL_gains 115 = .ok (.goto 4, 3) := by decide +kernel
theorem dL_gains_118 : dec mL_gains 118 = .ok (.iconst 0, 1) := by decide +kernel
theorem dL_gains_119 : dec mL_gains 119 = .ok (.istore 10, 2) := by decide +kernel
theorem dL_gains_121 : dec mL_gains 121 = .ok (.iload 9, 2) := by decide +kernel
theorem dL_gains_123 : dec mL_gains 123 = .ok (.ldc 33, 2) := by decide +kernel
theorem dL_gains_125 : dec mL_gains 125 = .ok (.if_icmp .eq 84, 3) := by decide +kernel
theorem dL_gains_128 : dec mL_gains 128 = .ok (.iload 10, 2) := by decide +kernel
theorem dL_gains_130 : dec mL_gains 130 = .ok (.ifCond .eq 76, 3) := by decide +kernel
theorem dL_gains_133 : dec mL_gains 133 = .ok (.iload 9, 2) := by decide +kernel
theorem dL_gains_135 : dec mL_gains 135 = .ok (.iload 8, 2) := by decide +kernel
theorem dL_gains_137 : dec mL_gains 137 = .ok (.if_icmp .ne 69, 3) := by decide +kernel
theorem dL_gains_140 : dec mL_gains 140 = .ok (.aload_n 0, 1) := by decide +kernel
theorem dL_gains_141 : dec mL_gains 141 = .ok (.iconst 2, 1) := by decide +kernel
theorem dL_gains_142 : dec mL_gains 142 = .ok (.iconst 5, 1) := by decide +kernel
theorem dL_gains_143 : dec mL_gains 143 = .ok (.iconst 0, 1) := by decide +kernel
theorem dL_gains_144 : dec mL_gains 144 = .ok (.iconst 0, 1) := by decide +kernel
theorem dL_gains_145 : dec mL_gains 145 = .ok (.invokestatic 168, 3) := by decide +kernel
theorem dL_gains_148 : dec mL_gains 148 = .ok (.iload 7, 2) := by decide +kernel
theorem dL_gains_150 : dec mL_gains 150 = .ok (.iload 8, 2) := by decide +kernel
theorem dL_gains_152 : dec mL_gains 152 = .ok (.isub, 1) := by decide +kernel
theorem dL_gains_153 : dec mL_gains 153 = .ok (.if_icmp .ne 53, 3) := by decide +kernel
theorem dL_gains_156 : dec mL_gains 156 = .ok (.aload_n 0, 1) := by decide +kernel
theorem dL_gains_157 : dec mL_gains 157 = .ok (.bipush 14, 2) := by decide +kernel
theorem dL_gains_159 : dec mL_gains 159 = .ok (.iload 5, 2) := by decide +kernel
theorem dL_gains_161 : dec mL_gains 161 = .ok (.iconst 0, 1) := by decide +kernel
theorem dL_gains_162 : dec mL_gains 162 = .ok (.iconst 0, 1) := by decide +kernel
theorem dL_gains_163 : dec mL_gains 163 = .ok (.invokestatic 168, 3) := by decide +kernel
theorem dL_gains_166 : dec mL_gains 166 = .ok (.iload 8, 2) := by decide +kernel
theorem dL_gains_168 : dec mL_gains 168 = .ok (.ineg, 1) := by decide +kernel
theorem dL_gains_169 : dec mL_gains 169 = .ok (.if_icmp .ne 37, 3) := by decide +kernel
theorem dL_gains_172 : dec mL_gains 172 = .ok (.aload_n 0, 1) := by decide +kernel
theorem dL_gains_173 : dec mL_gains 173 = .ok (.bipush 13, 2) := by decide +kernel
theorem dL_gains_175 : dec mL_gains 175 = .ok (.iconst 0, 1) := by decide +kernel
theorem dL_gains_176 : dec mL_gains 176 = .ok (.iconst 0, 1) := by decide +kernel
theorem dL_gains_177 : dec mL_gains 177 = .ok (.iconst 0, 1) := by decide +kernel
theorem dL_gains_178 : dec mL_gains 178 = .ok (.invokestatic 168, 3) := by decide +kernel
theorem dL_gains_181 : dec mL_gains 181 = .ok (.invokestatic 221, 3) := by decide +kernel
theorem dL_gains_184 : dec mL_gains 184 = .ok (.ifCond .ne 22, 3) := by decide +kernel
theorem dL_gains_187 : dec mL_gains 187 = .ok (.aload_n 1, 1) := by decide +kernel
theorem dL_gains_188 : dec mL_gains 188 = .ok (.bipush 13, 2) := by decide +kernel
theorem dL_gains_190 : dec mL_gains 190 = .ok (.iconst 0, 1) := by decide +kernel
theorem dL_gains_191 : dec mL_gains 191 = .ok (.iconst 0, 1) := by decide +kernel
theorem dL_gains_192 : dec mL_gains 192 = .ok (.iconst 0, 1) := by decide +kernel
theorem dL_gains_193 : dec mL_gains 193 = .ok (.invokestatic 168, 3) := by decide +kernel
theorem dL_gains_196 : dec mL_gains 196 = .ok (.invokestatic 221, 3) := by decide +kernel
theorem dL_gains_199 : dec mL_gains 199 = .ok (.ifCond .ne 7, 3) := by decide +kernel
theorem dL_gains_202 : dec mL_gains 202 = .ok (.iconst 1, 1) := by decide +kernel
theorem dL_gains_203 : dec mL_gains 203 = .ok (.goto 4, 3) := by decide +kernel
theorem dL_gains_206 : dec mL_gains 206 = .ok (.iconst 0, 1) := by decide +kernel
theorem dL_gains_207 : dec mL_gains 207 = .ok (.istore 10, 2) := by decide +kernel
theorem dL_gains_209 : dec mL_gains 209 = .ok (.iload 5, 2) := by decide +kernel
theorem dL_gains_211 : dec mL_gains 211 = .ok (.iload 6, 2) := by decide +kernel
theorem dL_gains_213 : dec mL_gains 213 = .ok (.if_icmp .ge 190, 3) := by decide +kernel
theorem dL_gains_216 : dec mL_gains 216 = .ok (.iload 10, 2) := by decide +kernel
theorem dL_gains_218 : dec mL_gains 218 = .ok (.ifCond .eq 185, 3) := by decide +kernel
theorem dL_gains_221 : dec mL_gains 221 = .ok (.aload_n 0, 1) := by decide +kernel
theorem dL_gains_222 : dec mL_gains 222 = .ok (.bipush 14, 2) := by decide +kernel
theorem dL_gains_224 : dec mL_gains 224 = .ok (.sipush 10000, 3) := by decide +kernel
theorem dL_gains_227 : dec mL_gains 227 = .ok (.bipush 100, 2) := by decide +kernel
theorem dL_gains_229 : dec mL_gains 229 = .ok (.iload 5, 2) := by decide +kernel
theorem dL_gains_231 : dec mL_gains 231 = .ok (.imul, 1) := by decide +kernel
theorem dL_gains_232 : dec mL_gains 232 = .ok (.iadd, 1) := by decide +kernel
theorem dL_gains_233 : dec mL_gains 233 = .ok (.iload 6, 2) := by decide +kernel
theorem dL_gains_235 : dec mL_gains 235 = .ok (.iadd, 1) := by decide +kernel
theorem dL_gains_236 : dec mL_gains 236 = .ok (.iconst 0, 1) := by decide +kernel
theorem dL_gains_237 : dec mL_gains 237 = .ok (.iconst 0, 1) := by decide +kernel
theorem dL_gains_238 : dec mL_gains 238 = .ok (.invokestatic 168, 3) := by decide +kernel
theorem dL_gains_241 : dec mL_gains 241 = .ok (.istore 8, 2) := by decide +kernel
theorem dL_gains_243 : dec mL_gains 243 = .ok (.aload_n 0, 1) := by decide +kernel
theorem dL_gains_244 : dec mL_gains 244 = .ok (.bipush 10, 2) := by decide +kernel
theorem dL_gains_246 : dec mL_gains 246 = .ok (.iload 6, 2) := by decide +kernel
theorem dL_gains_248 : dec mL_gains 248 = .ok (.iload 5, 2) := by decide +kernel
theorem dL_gains_250 : dec mL_gains 250 = .ok (.iconst 0, 1) := by decide +kernel
theorem dL_gains_251 : dec mL_gains 251 = .ok (.invokestatic 168, 3) := by decide +kernel
theorem dL_gains_254 : dec mL_gains 254 = .ok (.istore 9, 2) := by decide +kernel
theorem dL_gains_256 : dec mL_gains 256 = .ok (.aload_n 1, 1) := by decide +kernel
theorem dL_gains_257 : dec mL_gains 257 = .ok (.bipush 10, 2) := by decide +kernel
theorem dL_gains_259 : dec mL_gains 259 = .ok (.iload 6, 2) := by decide +kernel
theorem dL_gains_261 : dec mL_gains 261 = .ok (.iload 5, 2) := by decide +kernel
theorem dL_gains_263 : dec mL_gains 263 = .ok (.iconst 0, 1) := by decide +kernel
theorem dL_gains_264 : dec mL_gains 264 = .ok (.invokestatic 168, 3) := by decide +kernel
theorem dL_gains_267 : dec mL_gains 267 = .ok (.iload 9, 2) := by decide +kernel
theorem dL_gains_269 : dec mL_gains 269 = .ok (.if_icmp .ne 7, 3) := by decide +kernel
theorem dL_gains_272 : dec mL_gains 272 = .ok (.iconst 1, 1) := by decide +kernel
theorem dL_gains_273 : dec mL_gains 273 = .ok (.goto 4, 3) := by decide +kernel
theorem dL_gains_276 : dec mL_gains 276 = .ok (.iconst 0, 1) := by decide +kernel
theorem dL_gains_277 : dec mL_gains 277 = .ok (.istore 10, 2) := by decide +kernel
theorem dL_gains_279 : dec mL_gains 279 = .ok (.iload 9, 2) := by decide +kernel
theorem dL_gains_281 : dec mL_gains 281 = .ok (.ldc 33, 2) := by decide +kernel
theorem dL_gains_283 : dec mL_gains 283 = .ok (.if_icmp .eq 120, 3) := by decide +kernel
theorem dL_gains_286 : dec mL_gains 286 = .ok (.iload 10, 2) := by decide +kernel
theorem dL_gains_288 : dec mL_gains 288 = .ok (.ifCond .eq 112, 3) := by decide +kernel
theorem dL_gains_291 : dec mL_gains 291 = .ok (.iload 9, 2) := by decide +kernel
theorem dL_gains_293 : dec mL_gains 293 = .ok (.iload 8, 2) := by decide +kernel
theorem dL_gains_295 : dec mL_gains 295 = .ok (.if_icmp .ne 105, 3) := by decide +kernel
theorem dL_gains_298 : dec mL_gains 298 = .ok (.aload_n 0, 1) := by decide +kernel
theorem dL_gains_299 : dec mL_gains 299 = .ok (.iconst 2, 1) := by decide +kernel
theorem dL_gains_300 : dec mL_gains 300 = .ok (.iconst 5, 1) := by decide +kernel
theorem dL_gains_301 : dec mL_gains 301 = .ok (.iconst 0, 1) := by decide +kernel
theorem dL_gains_302 : dec mL_gains 302 = .ok (.iconst 0, 1) := by decide +kernel
theorem dL_gains_303 : dec mL_gains 303 = .ok (.invokestatic 168, 3) := by decide +kernel
theorem dL_gains_306 : dec mL_gains 306 = .ok (.iload 7, 2) := by decide +kernel
theorem dL_gains_308 : dec mL_gains 308 = .ok (.iload 8, 2) := by decide +kernel
theorem dL_gains_310 : dec mL_gains 310 = .ok (.isub, 1) := by decide +kernel
theorem dL_gains_311 : dec mL_gains 311 = .ok (.if_icmp .ne 89, 3) := by decide +kernel
theorem dL_gains_314 : dec mL_gains 314 = .ok (.aload_n 0, 1) := by decide +kernel
theorem dL_gains_315 : dec mL_gains 315 = .ok (.bipush 14, 2) := by decide +kernel
theorem dL_gains_317 : dec mL_gains 317 = .ok (.iload 5, 2) := by decide +kernel
theorem dL_gains_319 : dec mL_gains 319 = .ok (.iconst 0, 1) := by decide +kernel
theorem dL_gains_320 : dec mL_gains 320 = .ok (.iconst 0, 1) := by decide +kernel
theorem dL_gains_321 : dec mL_gains 321 = .ok (.invokestatic 168, 3) := by decide +kernel
theorem dL_gains_324 : dec mL_gains 324 = .ok (.ifCond .gt 76, 3) := by decide +kernel
theorem dL_gains_327 : dec mL_gains 327 = .ok (.aload_n 0, 1) := by decide +kernel
theorem dL_gains_328 : dec mL_gains 328 = .ok (.bipush 14, 2) := by decide +kernel
theorem dL_gains_330 : dec mL_gains 330 = .ok (.iload 6, 2) := by decide +kernel
theorem dL_gains_332 : dec mL_gains 332 = .ok (.iconst 0, 1) := by decide +kernel
theorem dL_gains_333 : dec mL_gains 333 = .ok (.iconst 0, 1) := by decide +kernel
theorem dL_gains_334 : dec mL_gains 334 = .ok (.invokestatic 168, 3) := by decide +kernel
theorem dL_gains_337 : dec mL_gains 337 = .ok (.ifCond .gt 63, 3) := by decide +kernel
theorem dL_gains_340 : dec mL_gains 340 = .ok (.aload_n 0, 1) := by decide +kernel
theorem dL_gains_341 : dec mL_gains 341 = .ok (.bipush 14, 2) := by decide +kernel
theorem dL_gains_343 : dec mL_gains 343 = .ok (.sipush 10000, 3) := by decide +kernel
theorem dL_gains_346 : dec mL_gains 346 = .ok (.bipush 100, 2) := by decide +kernel
theorem dL_gains_348 : dec mL_gains 348 = .ok (.iload 5, 2) := by decide +kernel
theorem dL_gains_350 : dec mL_gains 350 = .ok (.imul, 1) := by decide +kernel
theorem dL_gains_351 : dec mL_gains 351 = .ok (.iadd, 1) := by decide +kernel
theorem dL_gains_352 : dec mL_gains 352 = .ok (.iload 6, 2) := by decide +kernel
theorem dL_gains_354 : dec mL_gains 354 = .ok (.iadd, 1) := by decide +kernel
theorem dL_gains_355 : dec mL_gains 355 = .ok (.iconst 0, 1) := by decide +kernel
theorem dL_gains_356 : dec mL_gains 356 = .ok (.iconst 0, 1) := by decide +kernel
theorem dL_gains_357 : dec mL_gains 357 = .ok (.invokestatic 168, 3) := by decide +kernel
theorem dL_gains_360 : dec mL_gains 360 = .ok (.iload 8, 2) := by decide +kernel
theorem dL_gains_362 : dec mL_gains 362 = .ok (.ineg, 1) := by decide +kernel
theorem dL_gains_363 : dec mL_gains 363 = .ok (.if_icmp .lt 37, 3) := by decide +kernel
theorem dL_gains_366 : dec mL_gains 366 = .ok (.aload_n 0, 1) := by decide +kernel
theorem dL_gains_367 : dec mL_gains 367 = .ok (.bipush 13, 2) := by decide +kernel
theorem dL_gains_369 : dec mL_gains 369 = .ok (.iconst 0, 1) := by decide +kernel
theorem dL_gains_370 : dec mL_gains 370 = .ok (.iconst 0, 1) := by decide +kernel
theorem dL_gains_371 : dec mL_gains 371 = .ok (.iconst 0, 1) := by decide +kernel
theorem dL_gains_372 : dec mL_gains 372 = .ok (.invokestatic 168, 3) := by decide +kernel
theorem dL_gains_375 : dec mL_gains 375 = .ok (.invokestatic 221, 3) := by decide +kernel
theorem dL_gains_378 : dec mL_gains 378 = .ok (.ifCond .ne 22, 3) := by decide +kernel
theorem dL_gains_381 : dec mL_gains 381 = .ok (.aload_n 1, 1) := by decide +kernel
theorem dL_gains_382 : dec mL_gains 382 = .ok (.bipush 13, 2) := by decide +kernel
theorem dL_gains_384 : dec mL_gains 384 = .ok (.iconst 0, 1) := by decide +kernel
theorem dL_gains_385 : dec mL_gains 385 = .ok (.iconst 0, 1) := by decide +kernel
theorem dL_gains_386 : dec mL_gains 386 = .ok (.iconst 0, 1) := by decide +kernel
theorem dL_gains_387 : dec mL_gains 387 = .ok (.invokestatic 168, 3) := by decide +kernel
theorem dL_gains_390 : dec mL_gains 390 = .ok (.invokestatic 221, 3) := by decide +kernel
theorem dL_gains_393 : dec mL_gains 393 = .ok (.ifCond .ne 7, 3) := by decide +kernel
theorem dL_gains_396 : dec mL_gains 396 = .ok (.iconst 1, 1) := by decide +kernel
theorem dL_gains_397 : dec mL_gains 397 = .ok (.goto 4, 3) := by decide +kernel
theorem dL_gains_400 : dec mL_gains 400 = .ok (.iconst 0, 1) := by decide +kernel
theorem dL_gains_401 : dec mL_gains 401 = .ok (.istore 10, 2) := by decide +kernel
theorem dL_gains_403 : dec mL_gains 403 = .ok (.iload_n 2, 1) := by decide +kernel
theorem dL_gains_404 : dec mL_gains 404 = .ok (.iconst 5, 1) := by decide +kernel
theorem dL_gains_405 : dec mL_gains 405 = .ok (.idiv, 1) := by decide +kernel
theorem dL_gains_406 : dec mL_gains 406 = .ok (.iconst 2, 1) := by decide +kernel
theorem dL_gains_407 : dec mL_gains 407 = .ok (.iload_n 3, 1) := by decide +kernel
theorem dL_gains_408 : dec mL_gains 408 = .ok (.imul, 1) := by decide +kernel
theorem dL_gains_409 : dec mL_gains 409 = .ok (.irem, 1) := by decide +kernel
theorem dL_gains_410 : dec mL_gains 410 = .ok (.istore 11, 2) := by decide +kernel
theorem dL_gains_412 : dec mL_gains 412 = .ok (.aload_n 0, 1) := by decide +kernel
theorem dL_gains_413 : dec mL_gains 413 = .ok (.bipush 14, 2) := by decide +kernel
theorem dL_gains_415 : dec mL_gains 415 = .ok (.sipush 20000, 3) := by decide +kernel
theorem dL_gains_418 : dec mL_gains 418 = .ok (.iload 11, 2) := by decide +kernel
theorem dL_gains_420 : dec mL_gains 420 = .ok (.iadd, 1) := by decide +kernel
theorem dL_gains_421 : dec mL_gains 421 = .ok (.iconst 0, 1) := by decide +kernel
theorem dL_gains_422 : dec mL_gains 422 = .ok (.iconst 0, 1) := by decide +kernel
theorem dL_gains_423 : dec mL_gains 423 = .ok (.invokestatic 168, 3) := by decide +kernel
theorem dL_gains_426 : dec mL_gains 426 = .ok (.istore 8, 2) := by decide +kernel
theorem dL_gains_428 : dec mL_gains 428 = .ok (.aload_n 0, 1) := by decide +kernel
theorem dL_gains_429 : dec mL_gains 429 = .ok (.bipush 11, 2) := by decide +kernel
theorem dL_gains_431 : dec mL_gains 431 = .ok (.iload 11, 2) := by decide +kernel
theorem dL_gains_433 : dec mL_gains 433 = .ok (.iload 4, 2) := by decide +kernel
theorem dL_gains_435 : dec mL_gains 435 = .ok (.irem, 1) := by decide +kernel
theorem dL_gains_436 : dec mL_gains 436 = .ok (.iload 11, 2) := by decide +kernel
theorem dL_gains_438 : dec mL_gains 438 = .ok (.iload 4, 2) := by decide +kernel
theorem dL_gains_440 : dec mL_gains 440 = .ok (.idiv, 1) := by decide +kernel
theorem dL_gains_441 : dec mL_gains 441 = .ok (.iconst 0, 1) := by decide +kernel
theorem dL_gains_442 : dec mL_gains 442 = .ok (.invokestatic 168, 3) := by decide +kernel
theorem dL_gains_445 : dec mL_gains 445 = .ok (.istore 9, 2) := by decide +kernel
theorem dL_gains_447 : dec mL_gains 447 = .ok (.iload 10, 2) := by decide +kernel
theorem dL_gains_449 : dec mL_gains 449 = .ok (.ifCond .eq 43, 3) := by decide +kernel
theorem dL_gains_452 : dec mL_gains 452 = .ok (.aload_n 1, 1) := by decide +kernel
theorem dL_gains_453 : dec mL_gains 453 = .ok (.bipush 11, 2) := by decide +kernel
theorem dL_gains_455 : dec mL_gains 455 = .ok (.iload 11, 2) := by decide +kernel
theorem dL_gains_457 : dec mL_gains 457 = .ok (.iload 4, 2) := by decide +kernel
theorem dL_gains_459 : dec mL_gains 459 = .ok (.irem, 1) := by decide +kernel
theorem dL_gains_460 : dec mL_gains 460 = .ok (.iload 11, 2) := by decide +kernel
theorem dL_gains_462 : dec mL_gains 462 = .ok (.iload 4, 2) := by decide +kernel
theorem dL_gains_464 : dec mL_gains 464 = .ok (.idiv, 1) := by decide +kernel
theorem dL_gains_465 : dec mL_gains 465 = .ok (.iconst 0, 1) := by decide +kernel
theorem dL_gains_466 : dec mL_gains 466 = .ok (.invokestatic 168, 3) := by decide +kernel
theorem dL_gains_469 : dec mL_gains 469 = .ok (.iload 9, 2) := by decide +kernel
theorem dL_gains_471 : dec mL_gains 471 = .ok (.if_icmp .ne 21, 3) := by decide +kernel
theorem dL_gains_474 : dec mL_gains 474 = .ok (.iload 8, 2) := by decide +kernel
theorem dL_gains_476 : dec mL_gains 476 = .ok (.ldc 22, 2) := by decide +kernel
theorem dL_gains_478 : dec mL_gains 478 = .ok (.if_icmp .ne 10, 3) := by decide +kernel
theorem dL_gains_481 : dec mL_gains 481 = .ok (.iload 9, 2) := by decide +kernel
theorem dL_gains_483 : dec mL_gains 483 = .ok (.ldc 33, 2) := by decide +kernel
theorem dL_gains_485 : dec mL_gains 485 = .ok (.if_icmp .ne 7, 3) := by decide +kernel
theorem dL_gains_488 : dec mL_gains 488 = .ok (.iconst 1, 1) := by decide +kernel
theorem dL_gains_489 : dec mL_gains 489 = .ok (.goto 4, 3) := by decide +kernel
theorem dL_gains_492 : dec mL_gains 492 = .ok (.iconst 0, 1) := by decide +kernel
theorem dL_gains_493 : dec mL_gains 493 = .ok (.istore 10, 2) := by decide +kernel
theorem dL_gains_495 : dec mL_gains 495 = .ok (.iload 9, 2) := by decide +kernel
theorem dL_gains_497 : dec mL_gains 497 = .ok (.ldc 33, 2) := by decide +kernel
theorem dL_gains_499 : dec mL_gains 499 = .ok (.if_icmp .eq 88, 3) := by decide +kernel
theorem dL_gains_502 : dec mL_gains 502 = .ok (.iload 10, 2) := by decide +kernel
theorem dL_gains_504 : dec mL_gains 504 = .ok (.ifCond .eq 80, 3) := by decide +kernel
theorem dL_gains_507 : dec mL_gains 507 = .ok (.iload 9, 2) := by decide +kernel
theorem dL_gains_509 : dec mL_gains 509 = .ok (.iload 8, 2) := by decide +kernel
theorem dL_gains_511 : dec mL_gains 511 = .ok (.if_icmp .ne 73, 3) := by decide +kernel
theorem dL_gains_514 : dec mL_gains 514 = .ok (.aload_n 0, 1) := by decide +kernel
theorem dL_gains_515 : dec mL_gains 515 = .ok (.iconst 2, 1) := by decide +kernel
theorem dL_gains_516 : dec mL_gains 516 = .ok (.iconst 5, 1) := by decide +kernel
theorem dL_gains_517 : dec mL_gains 517 = .ok (.iconst 0, 1) := by decide +kernel
theorem dL_gains_518 : dec mL_gains 518 = .ok (.iconst 0, 1) := by decide +kernel
theorem dL_gains_519 : dec mL_gains 519 = .ok (.invokestatic 168, 3) := by decide +kernel
theorem dL_gains_522 : dec mL_gains 522 = .ok (.iload 7, 2) := by decide +kernel
theorem dL_gains_524 : dec mL_gains 524 = .ok (.iload 8, 2) := by decide +kernel
theorem dL_gains_526 : dec mL_gains 526 = .ok (.isub, 1) := by decide +kernel
theorem dL_gains_527 : dec mL_gains 527 = .ok (.if_icmp .ne 57, 3) := by decide +kernel
theorem dL_gains_530 : dec mL_gains 530 = .ok (.aload_n 0, 1) := by decide +kernel
theorem dL_gains_531 : dec mL_gains 531 = .ok (.bipush 14, 2) := by decide +kernel
theorem dL_gains_533 : dec mL_gains 533 = .ok (.sipush 20000, 3) := by decide +kernel
theorem dL_gains_536 : dec mL_gains 536 = .ok (.iload 11, 2) := by decide +kernel
theorem dL_gains_538 : dec mL_gains 538 = .ok (.iadd, 1) := by decide +kernel
theorem dL_gains_539 : dec mL_gains 539 = .ok (.iconst 0, 1) := by decide +kernel
theorem dL_gains_540 : dec mL_gains 540 = .ok (.iconst 0, 1) := by decide +kernel
theorem dL_gains_541 : dec mL_gains 541 = .ok (.invokestatic 168, 3) := by decide +kernel
theorem dL_gains_544 : dec mL_gains 544 = .ok (.iload 8, 2) := by decide +kernel
theorem dL_gains_546 : dec mL_gains 546 = .ok (.ineg, 1) := by decide +kernel
theorem dL_gains_547 : dec mL_gains 547 = .ok (.if_icmp .lt 37, 3) := by decide +kernel
theorem dL_gains_550 : dec mL_gains 550 = .ok (.aload_n 0, 1) := by decide +kernel
theorem dL_gains_551 : dec mL_gains 551 = .ok (.bipush 13, 2) := by decide +kernel
theorem dL_gains_553 : dec mL_gains 553 = .ok (.iconst 0, 1) := by decide +kernel
theorem dL_gains_554 : dec mL_gains 554 = .ok (.iconst 0, 1) := by decide +kernel
theorem dL_gains_555 : dec mL_gains 555 = .ok (.iconst 0, 1) := by decide +kernel
theorem dL_gains_556 : dec mL_gains 556 = .ok (.invokestatic 168, 3) := by decide +kernel
theorem dL_gains_559 : dec mL_gains 559 = .ok (.invokestatic 221, 3) := by decide +kernel
theorem dL_gains_562 : dec mL_gains 562 = .ok (.ifCond .ne 22, 3) := by decide +kernel
theorem dL_gains_565 : dec mL_gains 565 = .ok (.aload_n 1, 1) := by decide +kernel
theorem dL_gains_566 : dec mL_gains 566 = .ok (.bipush 13, 2) := by decide +kernel
theorem dL_gains_568 : dec mL_gains 568 = .ok (.iconst 0, 1) := by decide +kernel
theorem dL_gains_569 : dec mL_gains 569 = .ok (.iconst 0, 1) := by decide +kernel
theorem dL_gains_570 : dec mL_gains 570 = .ok (.iconst 0, 1) := by decide +kernel
theorem dL_gains_571 : dec mL_gains 571 = .ok (.invokestatic 168, 3) := by decide +kernel
theorem dL_gains_574 : dec mL_gains 574 = .ok (.invokestatic 221, 3) := by decide +kernel
theorem dL_gains_577 : dec mL_gains 577 = .ok (.ifCond .ne 7, 3) := by decide +kernel
theorem dL_gains_580 : dec mL_gains 580 = .ok (.iconst 1, 1) := by decide +kernel
theorem dL_gains_581 : dec mL_gains 581 = .ok (.goto 4, 3) := by decide +kernel
theorem dL_gains_584 : dec mL_gains 584 = .ok (.iconst 0, 1) := by decide +kernel
theorem dL_gains_585 : dec mL_gains 585 = .ok (.istore 10, 2) := by decide +kernel
theorem dL_gains_587 : dec mL_gains 587 = .ok (.iload 10, 2) := by decide +kernel
theorem dL_gains_589 : dec mL_gains 589 = .ok (.ifCond .eq 20, 3) := by decide +kernel
theorem dL_gains_592 : dec mL_gains 592 = .ok (.aload_n 0, 1) := by decide +kernel
theorem dL_gains_593 : dec mL_gains 593 = .ok (.iconst 2, 1) := by decide +kernel
theorem dL_gains_594 : dec mL_gains 594 = .ok (.iconst 5, 1) := by decide +kernel
theorem dL_gains_595 : dec mL_gains 595 = .ok (.iconst 0, 1) := by decide +kernel
theorem dL_gains_596 : dec mL_gains 596 = .ok (.iconst 0, 1) := by decide +kernel
theorem dL_gains_597 : dec mL_gains 597 = .ok (.invokestatic 168, 3) := by decide +kernel
theorem dL_gains_600 : dec mL_gains 600 = .ok (.iload 7, 2) := by decide +kernel
theorem dL_gains_602 : dec mL_gains 602 = .ok (.if_icmp .ne 7, 3) := by decide +kernel
theorem dL_gains_605 : dec mL_gains 605 = .ok (.iconst 1, 1) := by decide +kernel
theorem dL_gains_606 : dec mL_gains 606 = .ok (.goto 4, 3) := by decide +kernel
theorem dL_gains_609 : dec mL_gains 609 = .ok (.iconst 0, 1) := by decide +kernel
theorem dL_gains_610 : dec mL_gains 610 = .ok (.ireturn, 1) := by decide +kernel
theorem dL_best_0 : dec mL_best 0 = .ok (.aload_n 0, 1) := by decide +kernel
theorem dL_best_1 : dec mL_best 1 = .ok (.iconst 2, 1) := by decide +kernel
theorem dL_best_2 : dec mL_best 2 = .ok (.iconst 4, 1) := by decide +kernel
theorem dL_best_3 : dec mL_best 3 = .ok (.iconst 0, 1) := by decide +kernel
theorem dL_best_4 : dec mL_best 4 = .ok (.iconst 0, 1) := by decide +kernel
theorem dL_best_5 : dec mL_best 5 = .ok (.invokestatic 168, 3) := by decide +kernel
theorem dL_best_8 : dec mL_best 8 = .ok (.istore_n 3, 1) := by decide +kernel
theorem dL_best_9 : dec mL_best 9 = .ok (.aload_n 0, 1) := by decide +kernel
theorem dL_best_10 : dec mL_best 10 = .ok (.bipush 15, 2) := by decide +kernel
theorem dL_best_12 : dec mL_best 12 = .ok (.iconst 0, 1) := by decide +kernel
theorem dL_best_13 : dec mL_best 13 = .ok (.iconst 0, 1) := by decide +kernel
theorem dL_best_14 : dec mL_best 14 = .ok (.iconst 0, 1) := by decide +kernel
theorem dL_best_15 : dec mL_best 15 = .ok (.invokestatic 168, 3) := by decide +kernel
theorem dL_best_18 : dec mL_best 18 = .ok (.istore 4, 2) := by decide +kernel
theorem dL_best_20 : dec mL_best 20 = .ok (.aload_n 0, 1) := by decide +kernel
theorem dL_best_21 : dec mL_best 21 = .ok (.bipush 15, 2) := by decide +kernel
theorem dL_best_23 : dec mL_best 23 = .ok (.iconst 1, 1) := by decide +kernel
theorem dL_best_24 : dec mL_best 24 = .ok (.iconst 0, 1) := by decide +kernel
theorem dL_best_25 : dec mL_best 25 = .ok (.iconst 0, 1) := by decide +kernel
theorem dL_best_26 : dec mL_best 26 = .ok (.invokestatic 168, 3) := by decide +kernel
theorem dL_best_29 : dec mL_best 29 = .ok (.istore 5, 2) := by decide +kernel
theorem dL_best_31 : dec mL_best 31 = .ok (.iload_n 2, 1) := by decide +kernel
theorem dL_best_32 : dec mL_best 32 = .ok (.iload_n 3, 1) := by decide +kernel
theorem dL_best_33 : dec mL_best 33 = .ok (.irem, 1) := by decide +kernel
theorem dL_best_34 : dec mL_best 34 = .ok (.istore 6, 2) := by decide +kernel
theorem dL_best_36 : dec mL_best 36 = .ok (.aload_n 0, 1) := by decide +kernel
theorem dL_best_37 : dec mL_best 37 = .ok (.iconst 4, 1) := by decide +kernel
theorem dL_best_38 : dec mL_best 38 = .ok (.iload 6, 2) := by decide +kernel
theorem dL_best_40 : dec mL_best 40 = .ok (.iconst 5, 1) := by decide +kernel
theorem dL_best_41 : dec mL_best 41 = .ok (.iconst 0, 1) := by decide +kernel
theorem dL_best_42 : dec mL_best 42 = .ok (.invokestatic 168, 3) := by decide +kernel
theorem dL_best_45 : dec mL_best 45 = .ok (.ifCond .ne 7, 3) := by decide +kernel
theorem dL_best_48 : dec mL_best 48 = .ok (.iconst 1, 1) := by decide +kernel
theorem dL_best_49 : dec mL_best 49 = .ok (.goto 4, 3) := by decide +kernel
theorem dL_best_52 : dec mL_best 52 = .ok (.iconst 0, 1) := by decide +kernel
theorem dL_best_53 : dec mL_best 53 = .ok (.istore 7, 2) := by decide +kernel
theorem dL_best_55 : dec mL_best 55 = .ok (.iload 4, 2) := by decide +kernel
theorem dL_best_57 : dec mL_best 57 = .ok (.iconst (-1), 1) := by decide +kernel
theorem dL_best_58 : dec mL_best 58 = .ok (.if_icmp .ne 32, 3) := by decide +kernel
theorem dL_best_61 : dec mL_best 61 = .ok (.iload 5, 2) := by decide +kernel
theorem dL_best_63 : dec mL_best 63 = .ok (.ifCond .ne 25, 3) := by decide +kernel
theorem dL_best_66 : dec mL_best 66 = .ok (.iload 7, 2) := by decide +kernel
theorem dL_best_68 : dec mL_best 68 = .ok (.ifCond .ne 20, 3) := by decide +kernel
theorem dL_best_71 : dec mL_best 71 = .ok (.aload_n 1, 1) := by decide +kernel
theorem dL_best_72 : dec mL_best 72 = .ok (.bipush 15, 2) := by decide +kernel
theorem dL_best_74 : dec mL_best 74 = .ok (.iconst 0, 1) := by decide +kernel
theorem dL_best_75 : dec mL_best 75 = .ok (.iconst 0, 1) := by decide +kernel
theorem dL_best_76 : dec mL_best 76 = .ok (.iconst 0, 1) := by decide +kernel
theorem dL_best_77 : dec mL_best 77 = .ok (.invokestatic 168, 3) := by decide +kernel
theorem dL_best_80 : dec mL_best 80 = .ok (.iconst (-1), 1) := by decide +kernel
theorem dL_best_81 : dec mL_best 81 = .ok (.if_icmp .ne 7, 3) := by decide +kernel
theorem dL_best_84 : dec mL_best 84 = .ok (.iconst 1, 1) := by decide +kernel
theorem dL_best_85 : dec mL_best 85 = .ok (.goto 4, 3) := by decide +kernel
theorem dL_best_88 : dec mL_best 88 = .ok (.iconst 0, 1) := by decide +kernel
theorem dL_best_89 : dec mL_best 89 = .ok (.ireturn, 1) := by decide +kernel
theorem dL_best_90 : dec mL_best 90 = .ok (.aload_n 0, 1) := by decide +kernel
theorem dL_best_91 : dec mL_best 91 = .ok (.bipush 14, 2) := by decide +kernel
theorem dL_best_93 : dec mL_best 93 = .ok (.iload 4, 2) := by decide +kernel
theorem dL_best_95 : dec mL_best 95 = .ok (.iconst 0, 1) := by decide +kernel
theorem dL_best_96 : dec mL_best 96 = .ok (.iconst 0, 1) := by decide +kernel
theorem dL_best_97 : dec mL_best 97 = .ok (.invokestatic 168, 3) := by decide +kernel
theorem dL_best_100 : dec mL_best 100 = .ok (.iload 5, 2) := by decide +kernel
theorem dL_best_102 : dec mL_best 102 = .ok (.if_icmp .ne 7, 3) := by decide +kernel
theorem dL_best_105 : dec mL_best 105 = .ok (.iconst 1, 1) := by decide +kernel
theorem dL_best_106 : dec mL_best 106 = .ok (.goto 4, 3) := by decide +kernel
theorem dL_best_109 : dec mL_best 109 = .ok (.iconst 0, 1) := by decide +kernel
theorem dL_best_110 : dec mL_best 110 = .ok (.istore 8, 2) := by decide +kernel
theorem dL_best_112 : dec mL_best 112 = .ok (.aload_n 0, 1) := by decide +kernel
theorem dL_best_113 : dec mL_best 113 = .ok (.bipush 14, 2) := by decide +kernel
theorem dL_best_115 : dec mL_best 115 = .ok (.iload 6, 2) := by decide +kernel
theorem dL_best_117 : dec mL_best 117 = .ok (.iconst 0, 1) := by decide +kernel
theorem dL_best_118 : dec mL_best 118 = .ok (.iconst 0, 1) := by decide +kernel
theorem dL_best_119 : dec mL_best 119 = .ok (.invokestatic 168, 3) := by decide +kernel
theorem dL_best_122 : dec mL_best 122 = .ok (.istore 9, 2) := by decide +kernel
theorem dL_best_124 : dec mL_best 124 = .ok (.iload 8, 2) := by decide +kernel
theorem dL_best_126 : dec mL_best 126 = .ok (.ifCond .eq 33, 3) := by decide +kernel
theorem dL_best_129 : dec mL_best 129 = .ok (.iload 7, 2) := by decide +kernel
theorem dL_best_131 : dec mL_best 131 = .ok (.ifCond .eq 24, 3) := by decide +kernel
theorem dL_best_134 : dec mL_best 134 = .ok (.iload 9, 2) := by decide +kernel
theorem dL_best_136 : dec mL_best 136 = .ok (.iload 5, 2) := by decide +kernel
theorem dL_best_138 : dec mL_best 138 = .ok (.if_icmp .lt 17, 3) := by decide +kernel
theorem dL_best_141 : dec mL_best 141 = .ok (.iload 9, 2) := by decide +kernel
theorem dL_best_143 : dec mL_best 143 = .ok (.iload 5, 2) := by decide +kernel
theorem dL_best_145 : dec mL_best 145 = .ok (.if_icmp .ne 14, 3) := by decide +kernel
theorem dL_best_148 : dec mL_best 148 = .ok (.iload 6, 2) := by decide +kernel
theorem dL_best_150 : dec mL_best 150 = .ok (.iload 4, 2) := by decide +kernel
theorem dL_best_152 : dec mL_best 152 = .ok (.if_icmp .lt 7, 3) := by decide +kernel
theorem dL_best_155 : dec mL_best 155 = .ok (.iconst 1, 1) := by decide +kernel
theorem dL_best_156 : dec mL_best 156 = .ok (.goto 4, 3) := by decide +kernel
theorem dL_best_159 : dec mL_best 159 = .ok (.iconst 0, 1) := by decide +kernel
theorem dL_best_160 : dec mL_best 160 = .ok (.istore 8, 2) := by decide +kernel
theorem dL_best_162 : dec mL_best 162 = .ok (.iload 6, 2) := by decide +kernel
theorem dL_best_164 : dec mL_best 164 = .ok (.iconst 1, 1) := by decide +kernel
theorem dL_best_165 : dec mL_best 165 = .ok (.iadd, 1) := by decide +kernel
theorem dL_best_166 : dec mL_best 166 = .ok (.istore 10, 2) := by decide +kernel
theorem dL_best_168 : dec mL_best 168 = .ok (.iload 10, 2) := by decide +kernel
theorem dL_best_170 : dec mL_best 170 = .ok (.iload_n 3, 1) := by decide +kernel
theorem dL_best_171 : dec mL_best 171 = .ok (.if_icmp .ge 85, 3) := by decide +kernel
theorem dL_best_174 : dec mL_best 174 = .ok (.iload 8, 2) := by decide +kernel
theorem dL_best_176 : dec mL_best 176 = .ok (.ifCond .eq 80, 3) := by decide +kernel
theorem dL_best_179 : dec mL_best 179 = .ok (.iload 7, 2) := by decide +kernel
theorem dL_best_181 : dec mL_best 181 = .ok (.ifCond .eq 75, 3) := by decide +kernel
theorem dL_best_184 : dec mL_best 184 = .ok (.aload_n 0, 1) := by decide +kernel
theorem dL_best_185 : dec mL_best 185 = .ok (.iconst 4, 1) := by decide +kernel
theorem dL_best_186 : dec mL_best 186 = .ok (.iload 10, 2) := by decide +kernel
theorem dL_best_188 : dec mL_best 188 = .ok (.iconst 5, 1) := by decide +kernel
theorem dL_best_189 : dec mL_best 189 = .ok (.iconst 0, 1) := by decide +kernel
theorem dL_best_190 : dec mL_best 190 = .ok (.invokestatic 168, 3) := by decide +kernel
theorem dL_best_193 : dec mL_best 193 = .ok (.ifCond .ne 57, 3) := by decide +kernel
theorem dL_best_196 : dec mL_best 196 = .ok (.sipush 10000, 3) := by decide +kernel
theorem dL_best_199 : dec mL_best 199 = .ok (.bipush 100, 2) := by decide +kernel
theorem dL_best_201 : dec mL_best 201 = .ok (.iload 6, 2) := by decide +kernel
theorem dL_best_203 : dec mL_best 203 = .ok (.imul, 1) := by decide +kernel
theorem dL_best_204 : dec mL_best 204 = .ok (.iadd, 1) := by decide +kernel
theorem dL_best_205 : dec mL_best 205 = .ok (.iload 10, 2) := by decide +kernel
theorem dL_best_207 : dec mL_best 207 = .ok (.iadd, 1) := by decide +kernel
theorem dL_best_208 : dec mL_best 208 = .ok (.istore 11, 2) := by decide +kernel
theorem dL_best_210 : dec mL_best 210 = .ok (.aload_n 0, 1) := by decide +kernel
theorem dL_best_211 : dec mL_best 211 = .ok (.bipush 14, 2) := by decide +kernel
theorem dL_best_213 : dec mL_best 213 = .ok (.iload 11, 2) := by decide +kernel
theorem dL_best_215 : dec mL_best 215 = .ok (.iconst 0, 1) := by decide +kernel
theorem dL_best_216 : dec mL_best 216 = .ok (.iconst 0, 1) := by decide +kernel
theorem dL_best_217 : dec mL_best 217 = .ok (.invokestatic 168, 3) := by decide +kernel
theorem dL_best_220 : dec mL_best 220 = .ok (.istore 9, 2) := by decide +kernel
theorem dL_best_222 : dec mL_best 222 = .ok (.iload 9, 2) := by decide +kernel
theorem dL_best_224 : dec mL_best 224 = .ok (.iload 5, 2) := by decide +kernel
theorem dL_best_226 : dec mL_best 226 = .ok (.if_icmp .lt 17, 3) := by decide +kernel
theorem dL_best_229 : dec mL_best 229 = .ok (.iload 9, 2) := by decide +kernel
theorem dL_best_231 : dec mL_best 231 = .ok (.iload 5, 2) := by decide +kernel
theorem dL_best_233 : dec mL_best 233 = .ok (.if_icmp .ne 14, 3) := by decide +kernel
theorem dL_best_236 : dec mL_best 236 = .ok (.iload 11, 2) := by decide +kernel
theorem dL_best_238 : dec mL_best 238 = .ok (.iload 4, 2) := by decide +kernel
theorem dL_best_240 : dec mL_best 240 = .ok (.if_icmp .lt 7, 3) := by decide +kernel
theorem dL_best_243 : dec mL_best 243 = .ok (.iconst 1, 1) := by decide +kernel
theorem dL_best_244 : dec mL_best 244 = .ok (.goto 4, 3) := by decide +kernel
theorem dL_best_247 : dec mL_best 247 = .ok (.iconst 0, 1) := by decide +kernel
theorem dL_best_248 : dec mL_best 248 = .ok (.istore 8, 2) := by decide +kernel
theorem dL_best_250 : dec mL_best 250 = .ok (.iinc 10 1, 3) := by decide +kernel
theorem dL_best_253 : dec mL_best 253 = .ok (.goto (-85), 3) := by decide +kernel
theorem dL_best_256 : dec mL_best 256 = .ok (.iload 8, 2) := by decide +kernel
theorem dL_best_258 : dec mL_best 258 = .ok (.ireturn, 1) := by decide +kernel
theorem dL_improves_0 : dec mL_improves 0 = .ok (.aload_n 0, 1) := by decide +kernel
theorem dL_improves_1 : dec mL_improves 1 = .ok (.bipush 16, 2) := by decide +kernel
theorem dL_improves_3 : dec mL_improves 3 = .ok (.iload_n 2, 1) := by decide +kernel
theorem dL_improves_4 : dec mL_improves 4 = .ok (.iconst 0, 1) := by decide +kernel
theorem dL_improves_5 : dec mL_improves 5 = .ok (.iconst 0, 1) := by decide +kernel
theorem dL_improves_6 : dec mL_improves 6 = .ok (.invokestatic 168, 3) := by decide +kernel
theorem dL_improves_9 : dec mL_improves 9 = .ok (.istore_n 3, 1) := by decide +kernel
theorem dL_improves_10 : dec mL_improves 10 = .ok (.aload_n 0, 1) := by decide +kernel
theorem dL_improves_11 : dec mL_improves 11 = .ok (.bipush 16, 2) := by decide +kernel
theorem dL_improves_13 : dec mL_improves 13 = .ok (.iload_n 2, 1) := by decide +kernel
theorem dL_improves_14 : dec mL_improves 14 = .ok (.iconst 1, 1) := by decide +kernel
theorem dL_improves_15 : dec mL_improves 15 = .ok (.iconst 0, 1) := by decide +kernel
theorem dL_improves_16 : dec mL_improves 16 = .ok (.invokestatic 168, 3) := by decide +kernel
theorem dL_improves_19 : dec mL_improves 19 = .ok (.istore 4, 2) := by decide +kernel
theorem dL_improves_21 : dec mL_improves 21 = .ok (.aload_n 0, 1) := by decide +kernel
theorem dL_improves_22 : dec mL_improves 22 = .ok (.iconst 2, 1) := by decide +kernel
theorem dL_improves_23 : dec mL_improves 23 = .ok (.iconst 5, 1) := by decide +kernel
theorem dL_improves_24 : dec mL_improves 24 = .ok (.iconst 0, 1) := by decide +kernel
theorem dL_improves_25 : dec mL_improves 25 = .ok (.iconst 0, 1) := by decide +kernel
theorem dL_improves_26 : dec mL_improves 26 = .ok (.invokestatic 168, 3) := by decide +kernel
theorem dL_improves_29 : dec mL_improves 29 = .ok (.istore 5, 2) := by decide +kernel
theorem dL_improves_31 : dec mL_improves 31 = .ok (.aload_n 0, 1) := by decide +kernel
theorem dL_improves_32 : dec mL_improves 32 = .ok (.iconst 2, 1) := by decide +kernel
theorem dL_improves_33 : dec mL_improves 33 = .ok (.bipush 10, 2) := by decide +kernel
theorem dL_improves_35 : dec mL_improves 35 = .ok (.iconst 0, 1) := by decide +kernel
theorem dL_improves_36 : dec mL_improves 36 = .ok (.iconst 0, 1) := by decide +kernel
theorem dL_improves_37 : dec mL_improves 37 = .ok (.invokestatic 168, 3) := by decide +kernel
theorem dL_improves_40 : dec mL_improves 40 = .ok (.istore 6, 2) := by decide +kernel
theorem dL_improves_42 : dec mL_improves 42 = .ok (.iload_n 3, 1) := by decide +kernel
theorem dL_improves_43 : dec mL_improves 43 = .ok (.ifCond .lt 116, 3) := by decide +kernel
theorem dL_improves_46 : dec mL_improves 46 = .ok (.iload 4, 2) := by decide +kernel
theorem dL_improves_48 : dec mL_improves 48 = .ok (.ifCond .lt 111, 3) := by decide +kernel
theorem dL_improves_51 : dec mL_improves 51 = .ok (.iload 4, 2) := by decide +kernel
theorem dL_improves_53 : dec mL_improves 53 = .ok (.iload_n 2, 1) := by decide +kernel
theorem dL_improves_54 : dec mL_improves 54 = .ok (.if_icmp .gt 105, 3) := by decide +kernel
theorem dL_improves_57 : dec mL_improves 57 = .ok (.iload_n 3, 1) := by decide +kernel
theorem dL_improves_58 : dec mL_improves 58 = .ok (.ifCond .le 7, 3) := by decide +kernel
theorem dL_improves_61 : dec mL_improves 61 = .ok (.iconst 1, 1) := by decide +kernel
theorem dL_improves_62 : dec mL_improves 62 = .ok (.goto 4, 3) := by decide +kernel
theorem dL_improves_65 : dec mL_improves 65 = .ok (.iconst 0, 1) := by decide +kernel
theorem dL_improves_66 : dec mL_improves 66 = .ok (.iload 4, 2) := by decide +kernel
theorem dL_improves_68 : dec mL_improves 68 = .ok (.ifCond .le 7, 3) := by decide +kernel
theorem dL_improves_71 : dec mL_improves 71 = .ok (.iconst 1, 1) := by decide +kernel
theorem dL_improves_72 : dec mL_improves 72 = .ok (.goto 4, 3) := by decide +kernel
theorem dL_improves_75 : dec mL_improves 75 = .ok (.iconst 0, 1) := by decide +kernel
theorem dL_improves_76 : dec mL_improves 76 = .ok (.if_icmp .ne 83, 3) := by decide +kernel
theorem dL_improves_79 : dec mL_improves 79 = .ok (.aload_n 0, 1) := by decide +kernel
theorem dL_improves_80 : dec mL_improves 80 = .ok (.bipush 12, 2) := by decide +kernel
theorem dL_improves_82 : dec mL_improves 82 = .ok (.iload_n 2, 1) := by decide +kernel
theorem dL_improves_83 : dec mL_improves 83 = .ok (.iconst 0, 1) := by decide +kernel
theorem dL_improves_84 : dec mL_improves 84 = .ok (.iconst 0, 1) := by decide +kernel
theorem dL_improves_85 : dec mL_improves 85 = .ok (.invokestatic 168, 3) := by decide +kernel
theorem dL_improves_88 : dec mL_improves 88 = .ok (.iload_n 3, 1) := by decide +kernel
theorem dL_improves_89 : dec mL_improves 89 = .ok (.if_icmp .ne 70, 3) := by decide +kernel
theorem dL_improves_92 : dec mL_improves 92 = .ok (.aload_n 1, 1) := by decide +kernel
theorem dL_improves_93 : dec mL_improves 93 = .ok (.bipush 12, 2) := by decide +kernel
theorem dL_improves_95 : dec mL_improves 95 = .ok (.iload_n 2, 1) := by decide +kernel
theorem dL_improves_96 : dec mL_improves 96 = .ok (.iconst 0, 1) := by decide +kernel
theorem dL_improves_97 : dec mL_improves 97 = .ok (.iconst 0, 1) := by decide +kernel
theorem dL_improves_98 : dec mL_improves 98 = .ok (.invokestatic 168, 3) := by decide +kernel
theorem dL_improves_101 : dec mL_improves 101 = .ok (.iload_n 3, 1) := by decide +kernel
theorem dL_improves_102 : dec mL_improves 102 = .ok (.if_icmp .ne 57, 3) := by decide +kernel
theorem dL_improves_105 : dec mL_improves 105 = .ok (.aload_n 0, 1) := by decide +kernel
theorem dL_improves_106 : dec mL_improves 106 = .ok (.iconst 2, 1) := by decide +kernel
theorem dL_improves_107 : dec mL_improves 107 = .ok (.iconst 5, 1) := by decide +kernel
theorem dL_improves_108 : dec mL_improves 108 = .ok (.iconst 0, 1) := by decide +kernel
theorem dL_improves_109 : dec mL_improves 109 = .ok (.iconst 0, 1) := by decide +kernel
theorem dL_improves_110 : dec mL_improves 110 = .ok (.invokestatic 168, 3) := by decide +kernel
theorem dL_improves_113 : dec mL_improves 113 = .ok (.iload 5, 2) := by decide +kernel
theorem dL_improves_115 : dec mL_improves 115 = .ok (.iload_n 3, 1) := by decide +kernel
theorem dL_improves_116 : dec mL_improves 116 = .ok (.isub, 1) := by decide +kernel
theorem dL_improves_117 : dec mL_improves 117 = .ok (.if_icmp .ne 42, 3) := by decide +kernel
theorem dL_improves_120 : dec mL_improves 120 = .ok (.aload_n 0, 1) := by decide +kernel
theorem dL_improves_121 : dec mL_improves 121 = .ok (.iconst 2, 1) := by decide +kernel
theorem dL_improves_122 : dec mL_improves 122 = .ok (.bipush 10, 2) := by decide +kernel
theorem dL_improves_124 : dec mL_improves 124 = .ok (.iconst 0, 1) := by decide +kernel
theorem dL_improves_125 : dec mL_improves 125 = .ok (.iconst 0, 1) := by decide +kernel
theorem dL_improves_126 : dec mL_improves 126 = .ok (.invokestatic 168, 3) := by decide +kernel
theorem dL_improves_129 : dec mL_improves 129 = .ok (.iload 6, 2) := by decide +kernel
theorem dL_improves_131 : dec mL_improves 131 = .ok (.iload 4, 2) := by decide +kernel
theorem dL_improves_133 : dec mL_improves 133 = .ok (.iadd, 1) := by decide +kernel
theorem dL_improves_134 : dec mL_improves 134 = .ok (.if_icmp .ne 25, 3) := by decide +kernel
theorem dL_improves_137 : dec mL_improves 137 = .ok (.iload 4, 2) := by decide +kernel
theorem dL_improves_139 : dec mL_improves 139 = .ok (.iload_n 2, 1) := by decide +kernel
theorem dL_improves_140 : dec mL_improves 140 = .ok (.if_icmp .eq 15, 3) := by decide +kernel
theorem dL_improves_143 : dec mL_improves 143 = .ok (.aload_n 0, 1) := by decide +kernel
theorem dL_improves_144 : dec mL_improves 144 = .ok (.bipush 15, 2) := by decide +kernel
theorem dL_improves_146 : dec mL_improves 146 = .ok (.iconst 1, 1) := by decide +kernel
theorem dL_improves_147 : dec mL_improves 147 = .ok (.iconst 0, 1) := by decide +kernel
theorem dL_improves_148 : dec mL_improves 148 = .ok (.iconst 0, 1) := by decide +kernel
theorem dL_improves_149 : dec mL_improves 149 = .ok (.invokestatic 168, 3) := by decide +kernel
theorem dL_improves_152 : dec mL_improves 152 = .ok (.ifCond .gt 7, 3) := by decide +kernel
theorem dL_improves_155 : dec mL_improves 155 = .ok (.iconst 1, 1) := by decide +kernel
theorem dL_improves_156 : dec mL_improves 156 = .ok (.goto 4, 3) := by decide +kernel
theorem dL_improves_159 : dec mL_improves 159 = .ok (.iconst 0, 1) := by decide +kernel
theorem dL_improves_160 : dec mL_improves 160 = .ok (.istore 7, 2) := by decide +kernel
theorem dL_improves_162 : dec mL_improves 162 = .ok (.iload 7, 2) := by decide +kernel
theorem dL_improves_164 : dec mL_improves 164 = .ok (.ifCond .eq 64, 3) := by decide +kernel
theorem dL_improves_167 : dec mL_improves 167 = .ok (.aload_n 0, 1) := by decide +kernel
theorem dL_improves_168 : dec mL_improves 168 = .ok (.bipush 13, 2) := by decide +kernel
theorem dL_improves_170 : dec mL_improves 170 = .ok (.iconst 0, 1) := by decide +kernel
theorem dL_improves_171 : dec mL_improves 171 = .ok (.iconst 0, 1) := by decide +kernel
theorem dL_improves_172 : dec mL_improves 172 = .ok (.iconst 0, 1) := by decide +kernel
theorem dL_improves_173 : dec mL_improves 173 = .ok (.invokestatic 168, 3) := by decide +kernel
theorem dL_improves_176 : dec mL_improves 176 = .ok (.invokestatic 221, 3) := by decide +kernel
theorem dL_improves_179 : dec mL_improves 179 = .ok (.ifCond .ne 49, 3) := by decide +kernel
theorem dL_improves_182 : dec mL_improves 182 = .ok (.aload_n 1, 1) := by decide +kernel
theorem dL_improves_183 : dec mL_improves 183 = .ok (.bipush 13, 2) := by decide +kernel
theorem dL_improves_185 : dec mL_improves 185 = .ok (.iconst 0, 1) := by decide +kernel
theorem dL_improves_186 : dec mL_improves 186 = .ok (.iconst 0, 1) := by decide +kernel
theorem dL_improves_187 : dec mL_improves 187 = .ok (.iconst 0, 1) := by decide +kernel
theorem dL_improves_188 : dec mL_improves 188 = .ok (.invokestatic 168, 3) := by decide +kernel
theorem dL_improves_191 : dec mL_improves 191 = .ok (.invokestatic 221, 3) := by decide +kernel
theorem dL_improves_194 : dec mL_improves 194 = .ok (.ifCond .ne 34, 3) := by decide +kernel
theorem dL_improves_197 : dec mL_improves 197 = .ok (.aload_n 0, 1) := by decide +kernel
theorem dL_improves_198 : dec mL_improves 198 = .ok (.iconst 2, 1) := by decide +kernel
theorem dL_improves_199 : dec mL_improves 199 = .ok (.iconst 5, 1) := by decide +kernel
theorem dL_improves_200 : dec mL_improves 200 = .ok (.iconst 0, 1) := by decide +kernel
theorem dL_improves_201 : dec mL_improves 201 = .ok (.iconst 0, 1) := by decide +kernel
theorem dL_improves_202 : dec mL_improves 202 = .ok (.invokestatic 168, 3) := by decide +kernel
theorem dL_improves_205 : dec mL_improves 205 = .ok (.iload 5, 2) := by decide +kernel
theorem dL_improves_207 : dec mL_improves 207 = .ok (.if_icmp .ne 21, 3) := by decide +kernel
theorem dL_improves_210 : dec mL_improves 210 = .ok (.aload_n 0, 1) := by decide +kernel
theorem dL_improves_211 : dec mL_improves 211 = .ok (.iconst 2, 1) := by decide +kernel
theorem dL_improves_212 : dec mL_improves 212 = .ok (.bipush 10, 2) := by decide +kernel
theorem dL_improves_214 : dec mL_improves 214 = .ok (.iconst 0, 1) := by decide +kernel
theorem dL_improves_215 : dec mL_improves 215 = .ok (.iconst 0, 1) := by decide +kernel
theorem dL_improves_216 : dec mL_improves 216 = .ok (.invokestatic 168, 3) := by decide +kernel
theorem dL_improves_219 : dec mL_improves 219 = .ok (.iload 6, 2) := by decide +kernel
theorem dL_improves_221 : dec mL_improves 221 = .ok (.if_icmp .ne 7, 3) := by decide +kernel
theorem dL_improves_224 : dec mL_improves 224 = .ok (.iconst 1, 1) := by decide +kernel
theorem dL_improves_225 : dec mL_improves 225 = .ok (.goto 4, 3) := by decide +kernel
theorem dL_improves_228 : dec mL_improves 228 = .ok (.iconst 0, 1) := by decide +kernel
theorem dL_improves_229 : dec mL_improves 229 = .ok (.ireturn, 1) := by decide +kernel
