theorem mb_X11_day : pm_MB mX11_day 3 := ⟨pm_inG 44 (by decide +kernel) rfl, pm_inG 459 (by decide +kernel) rfl, by decide +kernel, by decide +kernel, by decide +kernel⟩
theorem mk_L_13 : pm_MV RL 13 mX11_day 3 := ⟨mb_X11_day, pm_inG 456 (by decide +kernel) rfl, pm_inG 457 (by decide +kernel) rfl, pm_inG 458 (by decide +kernel) rfl⟩
theorem mb_X12_day : pm_MB mX12_day 3 := ⟨pm_inG 57 (by decide +kernel) rfl, pm_inG 1029 (by decide +kernel) rfl, by decide +kernel, by decide +kernel, by decide +kernel⟩
theorem mk_L_17 : pm_MV RL 17 mX12_day 3 := ⟨mb_X12_day, pm_inG 1026 (by decide +kernel) rfl, pm_inG 1027 (by decide +kernel) rfl, pm_inG 1028 (by decide +kernel) rfl⟩
theorem mb_X11_dayOf : pm_MB mX11_dayOf 2 := ⟨pm_inG 44 (by decide +kernel) rfl, pm_inG 488 (by decide +kernel) rfl, by decide +kernel, by decide +kernel, by decide +kernel⟩
theorem mk_L_18 : pm_MV RL 18 mX11_dayOf 2 := ⟨mb_X11_dayOf, pm_inG 485 (by decide +kernel) rfl, pm_inG 486 (by decide +kernel) rfl, pm_inG 487 (by decide +kernel) rfl⟩
theorem mb_X12_dayOf : pm_MB mX12_dayOf 2 := ⟨pm_inG 57 (by decide +kernel) rfl, pm_inG 1047 (by decide +kernel) rfl, by decide +kernel, by decide +kernel, by decide +kernel⟩
theorem mk_L_22 : pm_MV RL 22 mX12_dayOf 2 := ⟨mb_X12_dayOf, pm_inG 1044 (by decide +kernel) rfl, pm_inG 1045 (by decide +kernel) rfl, pm_inG 1046 (by decide +kernel) rfl⟩
theorem mb_X11_kind : pm_MB mX11_kind 4 := ⟨pm_inG 44 (by decide +kernel) rfl, pm_inG 492 (by decide +kernel) rfl, by decide +kernel, by decide +kernel, by decide +kernel⟩
theorem mk_L_23 : pm_MV RL 23 mX11_kind 4 := ⟨mb_X11_kind, pm_inG 489 (by decide +kernel) rfl, pm_inG 490 (by decide +kernel) rfl, pm_inG 491 (by decide +kernel) rfl⟩
theorem mb_X12_kind : pm_MB mX12_kind 4 := ⟨pm_inG 57 (by decide +kernel) rfl, pm_inG 1051 (by decide +kernel) rfl, by decide +kernel, by decide +kernel, by decide +kernel⟩
theorem mk_L_27 : pm_MV RL 27 mX12_kind 4 := ⟨mb_X12_kind, pm_inG 1048 (by decide +kernel) rfl, pm_inG 1049 (by decide +kernel) rfl, pm_inG 1050 (by decide +kernel) rfl⟩
theorem mb_X11_rags : pm_MB mX11_rags 2 := ⟨pm_inG 44 (by decide +kernel) rfl, pm_inG 496 (by decide +kernel) rfl, by decide +kernel, by decide +kernel, by decide +kernel⟩
theorem mk_L_28 : pm_MV RL 28 mX11_rags 2 := ⟨mb_X11_rags, pm_inG 493 (by decide +kernel) rfl, pm_inG 494 (by decide +kernel) rfl, pm_inG 495 (by decide +kernel) rfl⟩
theorem mb_X12_rags : pm_MB mX12_rags 2 := ⟨pm_inG 57 (by decide +kernel) rfl, pm_inG 1059 (by decide +kernel) rfl, by decide +kernel, by decide +kernel, by decide +kernel⟩
theorem mk_L_31 : pm_MV RL 31 mX12_rags 2 := ⟨mb_X12_rags, pm_inG 1056 (by decide +kernel) rfl, pm_inG 1057 (by decide +kernel) rfl, pm_inG 1058 (by decide +kernel) rfl⟩
theorem mb_X11_heap : pm_MB mX11_heap 2 := ⟨pm_inG 44 (by decide +kernel) rfl, pm_inG 500 (by decide +kernel) rfl, by decide +kernel, by decide +kernel, by decide +kernel⟩
theorem mk_L_32 : pm_MV RL 32 mX11_heap 2 := ⟨mb_X11_heap, pm_inG 497 (by decide +kernel) rfl, pm_inG 498 (by decide +kernel) rfl, pm_inG 499 (by decide +kernel) rfl⟩
theorem mb_X12_heap : pm_MB mX12_heap 2 := ⟨pm_inG 57 (by decide +kernel) rfl, pm_inG 1063 (by decide +kernel) rfl, by decide +kernel, by decide +kernel, by decide +kernel⟩
theorem mk_L_35 : pm_MV RL 35 mX12_heap 2 := ⟨mb_X12_heap, pm_inG 1060 (by decide +kernel) rfl, pm_inG 1061 (by decide +kernel) rfl, pm_inG 1062 (by decide +kernel) rfl⟩
theorem mb_X11_load : pm_MB mX11_load 3 := ⟨pm_inG 44 (by decide +kernel) rfl, pm_inG 508 (by decide +kernel) rfl, by decide +kernel, by decide +kernel, by decide +kernel⟩
theorem mk_L_36 : pm_MV RL 36 mX11_load 3 := ⟨mb_X11_load, pm_inG 505 (by decide +kernel) rfl, pm_inG 506 (by decide +kernel) rfl, pm_inG 507 (by decide +kernel) rfl⟩
theorem mb_X12_load : pm_MB mX12_load 3 := ⟨pm_inG 57 (by decide +kernel) rfl, pm_inG 1067 (by decide +kernel) rfl, by decide +kernel, by decide +kernel, by decide +kernel⟩
theorem mk_L_39 : pm_MV RL 39 mX12_load 3 := ⟨mb_X12_load, pm_inG 1064 (by decide +kernel) rfl, pm_inG 1065 (by decide +kernel) rfl, pm_inG 1066 (by decide +kernel) rfl⟩
theorem mb_X11_pair : pm_MB mX11_pair 1 := ⟨pm_inG 44 (by decide +kernel) rfl, pm_inG 528 (by decide +kernel) rfl, by decide +kernel, by decide +kernel, by decide +kernel⟩
theorem mk_L_40 : pm_MV RL 40 mX11_pair 1 := ⟨mb_X11_pair, pm_inG 525 (by decide +kernel) rfl, pm_inG 526 (by decide +kernel) rfl, pm_inG 527 (by decide +kernel) rfl⟩
theorem mb_X12_pair : pm_MB mX12_pair 1 := ⟨pm_inG 57 (by decide +kernel) rfl, pm_inG 1080 (by decide +kernel) rfl, by decide +kernel, by decide +kernel, by decide +kernel⟩
theorem mk_L_44 : pm_MV RL 44 mX12_pair 1 := ⟨mb_X12_pair, pm_inG 1077 (by decide +kernel) rfl, pm_inG 1078 (by decide +kernel) rfl, pm_inG 1079 (by decide +kernel) rfl⟩
theorem mb_X11_wire : pm_MB mX11_wire 3 := ⟨pm_inG 44 (by decide +kernel) rfl, pm_inG 539 (by decide +kernel) rfl, by decide +kernel, by decide +kernel, by decide +kernel⟩
theorem mk_L_45 : pm_MV RL 45 mX11_wire 3 := ⟨mb_X11_wire, pm_inG 536 (by decide +kernel) rfl, pm_inG 537 (by decide +kernel) rfl, pm_inG 538 (by decide +kernel) rfl⟩
theorem mb_X12_wire : pm_MB mX12_wire 3 := ⟨pm_inG 57 (by decide +kernel) rfl, pm_inG 1084 (by decide +kernel) rfl, by decide +kernel, by decide +kernel, by decide +kernel⟩
theorem mk_L_48 : pm_MV RL 48 mX12_wire 3 := ⟨mb_X12_wire, pm_inG 1081 (by decide +kernel) rfl, pm_inG 1082 (by decide +kernel) rfl, pm_inG 1083 (by decide +kernel) rfl⟩
theorem mb_X11_mouldOf : pm_MB mX11_mouldOf 2 := ⟨pm_inG 44 (by decide +kernel) rfl, pm_inG 559 (by decide +kernel) rfl, by decide +kernel, by decide +kernel, by decide +kernel⟩
theorem mk_L_49 : pm_MV RL 49 mX11_mouldOf 2 := ⟨mb_X11_mouldOf, pm_inG 556 (by decide +kernel) rfl, pm_inG 557 (by decide +kernel) rfl, pm_inG 558 (by decide +kernel) rfl⟩
theorem mb_X12_mouldOf : pm_MB mX12_mouldOf 2 := ⟨pm_inG 57 (by decide +kernel) rfl, pm_inG 1092 (by decide +kernel) rfl, by decide +kernel, by decide +kernel, by decide +kernel⟩
theorem mk_L_52 : pm_MV RL 52 mX12_mouldOf 2 := ⟨mb_X12_mouldOf, pm_inG 1089 (by decide +kernel) rfl, pm_inG 1090 (by decide +kernel) rfl, pm_inG 1091 (by decide +kernel) rfl⟩
theorem mb_X11_vat : pm_MB mX11_vat 2 := ⟨pm_inG 44 (by decide +kernel) rfl, pm_inG 563 (by decide +kernel) rfl, by decide +kernel, by decide +kernel, by decide +kernel⟩
theorem mk_L_53 : pm_MV RL 53 mX11_vat 2 := ⟨mb_X11_vat, pm_inG 560 (by decide +kernel) rfl, pm_inG 561 (by decide +kernel) rfl, pm_inG 562 (by decide +kernel) rfl⟩
theorem mb_X12_vat : pm_MB mX12_vat 2 := ⟨pm_inG 57 (by decide +kernel) rfl, pm_inG 1096 (by decide +kernel) rfl, by decide +kernel, by decide +kernel, by decide +kernel⟩
theorem mk_L_56 : pm_MV RL 56 mX12_vat 2 := ⟨mb_X12_vat, pm_inG 1093 (by decide +kernel) rfl, pm_inG 1094 (by decide +kernel) rfl, pm_inG 1095 (by decide +kernel) rfl⟩
theorem mb_X11_furnish : pm_MB mX11_furnish 2 := ⟨pm_inG 44 (by decide +kernel) rfl, pm_inG 571 (by decide +kernel) rfl, by decide +kernel, by decide +kernel, by decide +kernel⟩
theorem mk_L_57 : pm_MV RL 57 mX11_furnish 2 := ⟨mb_X11_furnish, pm_inG 568 (by decide +kernel) rfl, pm_inG 569 (by decide +kernel) rfl, pm_inG 570 (by decide +kernel) rfl⟩
theorem mb_X12_furnish : pm_MB mX12_furnish 2 := ⟨pm_inG 57 (by decide +kernel) rfl, pm_inG 1100 (by decide +kernel) rfl, by decide +kernel, by decide +kernel, by decide +kernel⟩
theorem mk_L_60 : pm_MV RL 60 mX12_furnish 2 := ⟨mb_X12_furnish, pm_inG 1097 (by decide +kernel) rfl, pm_inG 1098 (by decide +kernel) rfl, pm_inG 1099 (by decide +kernel) rfl⟩
theorem mb_X11_loft : pm_MB mX11_loft 1 := ⟨pm_inG 44 (by decide +kernel) rfl, pm_inG 575 (by decide +kernel) rfl, by decide +kernel, by decide +kernel, by decide +kernel⟩
theorem mk_L_61 : pm_MV RL 61 mX11_loft 1 := ⟨mb_X11_loft, pm_inG 572 (by decide +kernel) rfl, pm_inG 573 (by decide +kernel) rfl, pm_inG 574 (by decide +kernel) rfl⟩
theorem mb_X12_loft : pm_MB mX12_loft 1 := ⟨pm_inG 57 (by decide +kernel) rfl, pm_inG 1104 (by decide +kernel) rfl, by decide +kernel, by decide +kernel, by decide +kernel⟩
theorem mk_L_64 : pm_MV RL 64 mX12_loft 1 := ⟨mb_X12_loft, pm_inG 1101 (by decide +kernel) rfl, pm_inG 1102 (by decide +kernel) rfl, pm_inG 1103 (by decide +kernel) rfl⟩
theorem mb_X11_hides : pm_MB mX11_hides 1 := ⟨pm_inG 44 (by decide +kernel) rfl, pm_inG 579 (by decide +kernel) rfl, by decide +kernel, by decide +kernel, by decide +kernel⟩
theorem mk_L_65 : pm_MV RL 65 mX11_hides 1 := ⟨mb_X11_hides, pm_inG 576 (by decide +kernel) rfl, pm_inG 577 (by decide +kernel) rfl, pm_inG 578 (by decide +kernel) rfl⟩
theorem mb_X12_hides : pm_MB mX12_hides 1 := ⟨pm_inG 57 (by decide +kernel) rfl, pm_inG 1108 (by decide +kernel) rfl, by decide +kernel, by decide +kernel, by decide +kernel⟩
theorem mk_L_68 : pm_MV RL 68 mX12_hides 1 := ⟨mb_X12_hides, pm_inG 1105 (by decide +kernel) rfl, pm_inG 1106 (by decide +kernel) rfl, pm_inG 1107 (by decide +kernel) rfl⟩
theorem mb_X11_size : pm_MB mX11_size 1 := ⟨pm_inG 44 (by decide +kernel) rfl, pm_inG 583 (by decide +kernel) rfl, by decide +kernel, by decide +kernel, by decide +kernel⟩
theorem mk_L_69 : pm_MV RL 69 mX11_size 1 := ⟨mb_X11_size, pm_inG 580 (by decide +kernel) rfl, pm_inG 581 (by decide +kernel) rfl, pm_inG 582 (by decide +kernel) rfl⟩
theorem mb_X12_size : pm_MB mX12_size 1 := ⟨pm_inG 57 (by decide +kernel) rfl, pm_inG 1112 (by decide +kernel) rfl, by decide +kernel, by decide +kernel, by decide +kernel⟩
theorem mk_L_72 : pm_MV RL 72 mX12_size 1 := ⟨mb_X12_size, pm_inG 1109 (by decide +kernel) rfl, pm_inG 1110 (by decide +kernel) rfl, pm_inG 1111 (by decide +kernel) rfl⟩
theorem mb_X11_sizeAll : pm_MB mX11_sizeAll 0 := ⟨pm_inG 44 (by decide +kernel) rfl, pm_inG 605 (by decide +kernel) rfl, by decide +kernel, by decide +kernel, by decide +kernel⟩
theorem mk_L_73 : pm_MV RL 73 mX11_sizeAll 0 := ⟨mb_X11_sizeAll, pm_inG 602 (by decide +kernel) rfl, pm_inG 603 (by decide +kernel) rfl, pm_inG 604 (by decide +kernel) rfl⟩
theorem mb_X12_sizeAll : pm_MB mX12_sizeAll 0 := ⟨pm_inG 57 (by decide +kernel) rfl, pm_inG 1129 (by decide +kernel) rfl, by decide +kernel, by decide +kernel, by decide +kernel⟩
theorem mk_L_77 : pm_MV RL 77 mX12_sizeAll 0 := ⟨mb_X12_sizeAll, pm_inG 1126 (by decide +kernel) rfl, pm_inG 1127 (by decide +kernel) rfl, pm_inG 1128 (by decide +kernel) rfl⟩
theorem mb_X11_duty : pm_MB mX11_duty 2 := ⟨pm_inG 44 (by decide +kernel) rfl, pm_inG 609 (by decide +kernel) rfl, by decide +kernel, by decide +kernel, by decide +kernel⟩
theorem mk_L_78 : pm_MV RL 78 mX11_duty 2 := ⟨mb_X11_duty, pm_inG 606 (by decide +kernel) rfl, pm_inG 607 (by decide +kernel) rfl, pm_inG 608 (by decide +kernel) rfl⟩
theorem mb_X12_duty : pm_MB mX12_duty 2 := ⟨pm_inG 57 (by decide +kernel) rfl, pm_inG 1133 (by decide +kernel) rfl, by decide +kernel, by decide +kernel, by decide +kernel⟩
theorem mk_L_81 : pm_MV RL 81 mX12_duty 2 := ⟨mb_X12_duty, pm_inG 1130 (by decide +kernel) rfl, pm_inG 1131 (by decide +kernel) rfl, pm_inG 1132 (by decide +kernel) rfl⟩
theorem mb_X11_order : pm_MB mX11_order 5 := ⟨pm_inG 44 (by decide +kernel) rfl, pm_inG 613 (by decide +kernel) rfl, by decide +kernel, by decide +kernel, by decide +kernel⟩
theorem mk_L_82 : pm_MV RL 82 mX11_order 5 := ⟨mb_X11_order, pm_inG 610 (by decide +kernel) rfl, pm_inG 611 (by decide +kernel) rfl, pm_inG 612 (by decide +kernel) rfl⟩
theorem mb_X12_order : pm_MB mX12_order 5 := ⟨pm_inG 57 (by decide +kernel) rfl, pm_inG 1140 (by decide +kernel) rfl, by decide +kernel, by decide +kernel, by decide +kernel⟩
theorem mk_L_86 : pm_MV RL 86 mX12_order 5 := ⟨mb_X12_order, pm_inG 1137 (by decide +kernel) rfl, pm_inG 1138 (by decide +kernel) rfl, pm_inG 1139 (by decide +kernel) rfl⟩
theorem mb_X11_fill : pm_MB mX11_fill 1 := ⟨pm_inG 44 (by decide +kernel) rfl, pm_inG 621 (by decide +kernel) rfl, by decide +kernel, by decide +kernel, by decide +kernel⟩
theorem mk_L_87 : pm_MV RL 87 mX11_fill 1 := ⟨mb_X11_fill, pm_inG 618 (by decide +kernel) rfl, pm_inG 619 (by decide +kernel) rfl, pm_inG 620 (by decide +kernel) rfl⟩
theorem mb_X12_fill : pm_MB mX12_fill 1 := ⟨pm_inG 57 (by decide +kernel) rfl, pm_inG 1144 (by decide +kernel) rfl, by decide +kernel, by decide +kernel, by decide +kernel⟩
theorem mk_L_90 : pm_MV RL 90 mX12_fill 1 := ⟨mb_X12_fill, pm_inG 1141 (by decide +kernel) rfl, pm_inG 1142 (by decide +kernel) rfl, pm_inG 1143 (by decide +kernel) rfl⟩
theorem mb_X11_best : pm_MB mX11_best 1 := ⟨pm_inG 44 (by decide +kernel) rfl, pm_inG 638 (by decide +kernel) rfl, by decide +kernel, by decide +kernel, by decide +kernel⟩
theorem mk_L_91 : pm_MV RL 91 mX11_best 1 := ⟨mb_X11_best, pm_inG 635 (by decide +kernel) rfl, pm_inG 636 (by decide +kernel) rfl, pm_inG 637 (by decide +kernel) rfl⟩
theorem mb_X12_best : pm_MB mX12_best 1 := ⟨pm_inG 57 (by decide +kernel) rfl, pm_inG 1153 (by decide +kernel) rfl, by decide +kernel, by decide +kernel, by decide +kernel⟩
theorem mk_L_94 : pm_MV RL 94 mX12_best 1 := ⟨mb_X12_best, pm_inG 1150 (by decide +kernel) rfl, pm_inG 1151 (by decide +kernel) rfl, pm_inG 1152 (by decide +kernel) rfl⟩
theorem mb_X11_bestWorth : pm_MB mX11_bestWorth 1 := ⟨pm_inG 44 (by decide +kernel) rfl, pm_inG 676 (by decide +kernel) rfl, by decide +kernel, by decide +kernel, by decide +kernel⟩
theorem mk_L_95 : pm_MV RL 95 mX11_bestWorth 1 := ⟨mb_X11_bestWorth, pm_inG 673 (by decide +kernel) rfl, pm_inG 674 (by decide +kernel) rfl, pm_inG 675 (by decide +kernel) rfl⟩
theorem mb_X12_bestWorth : pm_MB mX12_bestWorth 1 := ⟨pm_inG 57 (by decide +kernel) rfl, pm_inG 1162 (by decide +kernel) rfl, by decide +kernel, by decide +kernel, by decide +kernel⟩
theorem mk_L_98 : pm_MV RL 98 mX12_bestWorth 1 := ⟨mb_X12_bestWorth, pm_inG 1159 (by decide +kernel) rfl, pm_inG 1160 (by decide +kernel) rfl, pm_inG 1161 (by decide +kernel) rfl⟩
theorem mb_X11_hours : pm_MB mX11_hours 1 := ⟨pm_inG 44 (by decide +kernel) rfl, pm_inG 680 (by decide +kernel) rfl, by decide +kernel, by decide +kernel, by decide +kernel⟩
theorem mk_L_99 : pm_MV RL 99 mX11_hours 1 := ⟨mb_X11_hours, pm_inG 677 (by decide +kernel) rfl, pm_inG 678 (by decide +kernel) rfl, pm_inG 679 (by decide +kernel) rfl⟩
theorem mb_X12_hours : pm_MB mX12_hours 1 := ⟨pm_inG 57 (by decide +kernel) rfl, pm_inG 1166 (by decide +kernel) rfl, by decide +kernel, by decide +kernel, by decide +kernel⟩
theorem mk_L_102 : pm_MV RL 102 mX12_hours 1 := ⟨mb_X12_hours, pm_inG 1163 (by decide +kernel) rfl, pm_inG 1164 (by decide +kernel) rfl, pm_inG 1165 (by decide +kernel) rfl⟩
theorem mb_X11_foretell : pm_MB mX11_foretell 2 := ⟨pm_inG 44 (by decide +kernel) rfl, pm_inG 756 (by decide +kernel) rfl, by decide +kernel, by decide +kernel, by decide +kernel⟩
theorem mk_L_103 : pm_MV RL 103 mX11_foretell 2 := ⟨mb_X11_foretell, pm_inG 753 (by decide +kernel) rfl, pm_inG 754 (by decide +kernel) rfl, pm_inG 755 (by decide +kernel) rfl⟩
theorem mb_X12_foretell : pm_MB mX12_foretell 2 := ⟨pm_inG 57 (by decide +kernel) rfl, pm_inG 1194 (by decide +kernel) rfl, by decide +kernel, by decide +kernel, by decide +kernel⟩
theorem mk_L_106 : pm_MV RL 106 mX12_foretell 2 := ⟨mb_X12_foretell, pm_inG 1191 (by decide +kernel) rfl, pm_inG 1192 (by decide +kernel) rfl, pm_inG 1193 (by decide +kernel) rfl⟩
theorem mb_X11_when : pm_MB mX11_when 1 := ⟨pm_inG 44 (by decide +kernel) rfl, pm_inG 800 (by decide +kernel) rfl, by decide +kernel, by decide +kernel, by decide +kernel⟩
theorem mk_L_107 : pm_MV RL 107 mX11_when 1 := ⟨mb_X11_when, pm_inG 797 (by decide +kernel) rfl, pm_inG 798 (by decide +kernel) rfl, pm_inG 799 (by decide +kernel) rfl⟩
theorem mb_X12_when : pm_MB mX12_when 1 := ⟨pm_inG 57 (by decide +kernel) rfl, pm_inG 1210 (by decide +kernel) rfl, by decide +kernel, by decide +kernel, by decide +kernel⟩
theorem mk_L_110 : pm_MV RL 110 mX12_when 1 := ⟨mb_X12_when, pm_inG 1207 (by decide +kernel) rfl, pm_inG 1208 (by decide +kernel) rfl, pm_inG 1209 (by decide +kernel) rfl⟩
theorem mb_X11_mark : pm_MB mX11_mark 3 := ⟨pm_inG 44 (by decide +kernel) rfl, pm_inG 804 (by decide +kernel) rfl, by decide +kernel, by decide +kernel, by decide +kernel⟩
theorem mk_L_111 : pm_MV RL 111 mX11_mark 3 := ⟨mb_X11_mark, pm_inG 801 (by decide +kernel) rfl, pm_inG 802 (by decide +kernel) rfl, pm_inG 803 (by decide +kernel) rfl⟩
theorem mb_X12_mark : pm_MB mX12_mark 3 := ⟨pm_inG 57 (by decide +kernel) rfl, pm_inG 1214 (by decide +kernel) rfl, by decide +kernel, by decide +kernel, by decide +kernel⟩
theorem mk_L_114 : pm_MV RL 114 mX12_mark 3 := ⟨mb_X12_mark, pm_inG 1211 (by decide +kernel) rfl, pm_inG 1212 (by decide +kernel) rfl, pm_inG 1213 (by decide +kernel) rfl⟩
theorem mb_X11_oldA : pm_MB mX11_oldA 3 := ⟨pm_inG 44 (by decide +kernel) rfl, pm_inG 816 (by decide +kernel) rfl, by decide +kernel, by decide +kernel, by decide +kernel⟩
theorem mk_L_115 : pm_MV RL 115 mX11_oldA 3 := ⟨mb_X11_oldA, pm_inG 813 (by decide +kernel) rfl, pm_inG 814 (by decide +kernel) rfl, pm_inG 815 (by decide +kernel) rfl⟩
theorem mb_X12_oldA : pm_MB mX12_oldA 3 := ⟨pm_inG 57 (by decide +kernel) rfl, pm_inG 1218 (by decide +kernel) rfl, by decide +kernel, by decide +kernel, by decide +kernel⟩
theorem mk_L_118 : pm_MV RL 118 mX12_oldA 3 := ⟨mb_X12_oldA, pm_inG 1215 (by decide +kernel) rfl, pm_inG 1216 (by decide +kernel) rfl, pm_inG 1217 (by decide +kernel) rfl⟩
theorem mb_X11_oldB : pm_MB mX11_oldB 3 := ⟨pm_inG 44 (by decide +kernel) rfl, pm_inG 824 (by decide +kernel) rfl, by decide +kernel, by decide +kernel, by decide +kernel⟩
theorem mk_L_119 : pm_MV RL 119 mX11_oldB 3 := ⟨mb_X11_oldB, pm_inG 821 (by decide +kernel) rfl, pm_inG 822 (by decide +kernel) rfl, pm_inG 823 (by decide +kernel) rfl⟩
theorem mb_X12_oldB : pm_MB mX12_oldB 3 := ⟨pm_inG 57 (by decide +kernel) rfl, pm_inG 1226 (by decide +kernel) rfl, by decide +kernel, by decide +kernel, by decide +kernel⟩
theorem mk_L_122 : pm_MV RL 122 mX12_oldB 3 := ⟨mb_X12_oldB, pm_inG 1223 (by decide +kernel) rfl, pm_inG 1224 (by decide +kernel) rfl, pm_inG 1225 (by decide +kernel) rfl⟩
theorem mb_X11_lies : pm_MB mX11_lies 1 := ⟨pm_inG 44 (by decide +kernel) rfl, pm_inG 828 (by decide +kernel) rfl, by decide +kernel, by decide +kernel, by decide +kernel⟩
theorem mk_L_123 : pm_MV RL 123 mX11_lies 1 := ⟨mb_X11_lies, pm_inG 825 (by decide +kernel) rfl, pm_inG 826 (by decide +kernel) rfl, pm_inG 827 (by decide +kernel) rfl⟩
theorem mb_X12_lies : pm_MB mX12_lies 1 := ⟨pm_inG 57 (by decide +kernel) rfl, pm_inG 1230 (by decide +kernel) rfl, by decide +kernel, by decide +kernel, by decide +kernel⟩
theorem mk_L_126 : pm_MV RL 126 mX12_lies 1 := ⟨mb_X12_lies, pm_inG 1227 (by decide +kernel) rfl, pm_inG 1228 (by decide +kernel) rfl, pm_inG 1229 (by decide +kernel) rfl⟩
theorem mb_X11_nearest : pm_MB mX11_nearest 1 := ⟨pm_inG 44 (by decide +kernel) rfl, pm_inG 852 (by decide +kernel) rfl, by decide +kernel, by decide +kernel, by decide +kernel⟩
theorem mk_L_127 : pm_MV RL 127 mX11_nearest 1 := ⟨mb_X11_nearest, pm_inG 849 (by decide +kernel) rfl, pm_inG 850 (by decide +kernel) rfl, pm_inG 851 (by decide +kernel) rfl⟩
theorem mb_X12_nearest : pm_MB mX12_nearest 1 := ⟨pm_inG 57 (by decide +kernel) rfl, pm_inG 1243 (by decide +kernel) rfl, by decide +kernel, by decide +kernel, by decide +kernel⟩
theorem mk_L_130 : pm_MV RL 130 mX12_nearest 1 := ⟨mb_X12_nearest, pm_inG 1240 (by decide +kernel) rfl, pm_inG 1241 (by decide +kernel) rfl, pm_inG 1242 (by decide +kernel) rfl⟩
theorem mb_X11_span : pm_MB mX11_span 3 := ⟨pm_inG 44 (by decide +kernel) rfl, pm_inG 872 (by decide +kernel) rfl, by decide +kernel, by decide +kernel, by decide +kernel⟩
theorem mk_L_131 : pm_MV RL 131 mX11_span 3 := ⟨mb_X11_span, pm_inG 869 (by decide +kernel) rfl, pm_inG 870 (by decide +kernel) rfl, pm_inG 871 (by decide +kernel) rfl⟩
theorem mb_X12_span : pm_MB mX12_span 3 := ⟨pm_inG 57 (by decide +kernel) rfl, pm_inG 1251 (by decide +kernel) rfl, by decide +kernel, by decide +kernel, by decide +kernel⟩
theorem mk_L_135 : pm_MV RL 135 mX12_span 3 := ⟨mb_X12_span, pm_inG 1248 (by decide +kernel) rfl, pm_inG 1249 (by decide +kernel) rfl, pm_inG 1250 (by decide +kernel) rfl⟩
theorem mb_X11_heapOf : pm_MB mX11_heapOf 2 := ⟨pm_inG 44 (by decide +kernel) rfl, pm_inG 884 (by decide +kernel) rfl, by decide +kernel, by decide +kernel, by decide +kernel⟩
theorem mk_L_136 : pm_MV RL 136 mX11_heapOf 2 := ⟨mb_X11_heapOf, pm_inG 881 (by decide +kernel) rfl, pm_inG 882 (by decide +kernel) rfl, pm_inG 883 (by decide +kernel) rfl⟩
theorem mb_X12_heapOf : pm_MB mX12_heapOf 2 := ⟨pm_inG 57 (by decide +kernel) rfl, pm_inG 1255 (by decide +kernel) rfl, by decide +kernel, by decide +kernel, by decide +kernel⟩
theorem mk_L_139 : pm_MV RL 139 mX12_heapOf 2 := ⟨mb_X12_heapOf, pm_inG 1252 (by decide +kernel) rfl, pm_inG 1253 (by decide +kernel) rfl, pm_inG 1254 (by decide +kernel) rfl⟩
theorem mb_X11_beaterOf : pm_MB mX11_beaterOf 2 := ⟨pm_inG 44 (by decide +kernel) rfl, pm_inG 889 (by decide +kernel) rfl, by decide +kernel, by decide +kernel, by decide +kernel⟩
theorem mk_L_140 : pm_MV RL 140 mX11_beaterOf 2 := ⟨mb_X11_beaterOf, pm_inG 886 (by decide +kernel) rfl, pm_inG 887 (by decide +kernel) rfl, pm_inG 888 (by decide +kernel) rfl⟩
theorem mb_X12_beaterOf : pm_MB mX12_beaterOf 2 := ⟨pm_inG 57 (by decide +kernel) rfl, pm_inG 1259 (by decide +kernel) rfl, by decide +kernel, by decide +kernel, by decide +kernel⟩
theorem mk_L_143 : pm_MV RL 143 mX12_beaterOf 2 := ⟨mb_X12_beaterOf, pm_inG 1256 (by decide +kernel) rfl, pm_inG 1257 (by decide +kernel) rfl, pm_inG 1258 (by decide +kernel) rfl⟩
theorem mb_X11_vatOf : pm_MB mX11_vatOf 2 := ⟨pm_inG 44 (by decide +kernel) rfl, pm_inG 893 (by decide +kernel) rfl, by decide +kernel, by decide +kernel, by decide +kernel⟩
theorem mk_L_144 : pm_MV RL 144 mX11_vatOf 2 := ⟨mb_X11_vatOf, pm_inG 890 (by decide +kernel) rfl, pm_inG 891 (by decide +kernel) rfl, pm_inG 892 (by decide +kernel) rfl⟩
theorem mb_X12_vatOf : pm_MB mX12_vatOf 2 := ⟨pm_inG 57 (by decide +kernel) rfl, pm_inG 1263 (by decide +kernel) rfl, by decide +kernel, by decide +kernel, by decide +kernel⟩
theorem mk_L_147 : pm_MV RL 147 mX12_vatOf 2 := ⟨mb_X12_vatOf, pm_inG 1260 (by decide +kernel) rfl, pm_inG 1261 (by decide +kernel) rfl, pm_inG 1262 (by decide +kernel) rfl⟩
theorem mb_X11_postOf : pm_MB mX11_postOf 2 := ⟨pm_inG 44 (by decide +kernel) rfl, pm_inG 897 (by decide +kernel) rfl, by decide +kernel, by decide +kernel, by decide +kernel⟩
theorem mk_L_148 : pm_MV RL 148 mX11_postOf 2 := ⟨mb_X11_postOf, pm_inG 894 (by decide +kernel) rfl, pm_inG 895 (by decide +kernel) rfl, pm_inG 896 (by decide +kernel) rfl⟩
theorem mb_X12_postOf : pm_MB mX12_postOf 2 := ⟨pm_inG 57 (by decide +kernel) rfl, pm_inG 1267 (by decide +kernel) rfl, by decide +kernel, by decide +kernel, by decide +kernel⟩
theorem mk_L_151 : pm_MV RL 151 mX12_postOf 2 := ⟨mb_X12_postOf, pm_inG 1264 (by decide +kernel) rfl, pm_inG 1265 (by decide +kernel) rfl, pm_inG 1266 (by decide +kernel) rfl⟩
theorem mb_X11_orderOf : pm_MB mX11_orderOf 2 := ⟨pm_inG 44 (by decide +kernel) rfl, pm_inG 901 (by decide +kernel) rfl, by decide +kernel, by decide +kernel, by decide +kernel⟩
theorem mk_L_152 : pm_MV RL 152 mX11_orderOf 2 := ⟨mb_X11_orderOf, pm_inG 898 (by decide +kernel) rfl, pm_inG 899 (by decide +kernel) rfl, pm_inG 900 (by decide +kernel) rfl⟩
theorem mb_X12_orderOf : pm_MB mX12_orderOf 2 := ⟨pm_inG 57 (by decide +kernel) rfl, pm_inG 1271 (by decide +kernel) rfl, by decide +kernel, by decide +kernel, by decide +kernel⟩
theorem mk_L_155 : pm_MV RL 155 mX12_orderOf 2 := ⟨mb_X12_orderOf, pm_inG 1268 (by decide +kernel) rfl, pm_inG 1269 (by decide +kernel) rfl, pm_inG 1270 (by decide +kernel) rfl⟩
theorem mb_X11_sheets : pm_MB mX11_sheets 2 := ⟨pm_inG 44 (by decide +kernel) rfl, pm_inG 905 (by decide +kernel) rfl, by decide +kernel, by decide +kernel, by decide +kernel⟩
theorem mk_L_156 : pm_MV RL 156 mX11_sheets 2 := ⟨mb_X11_sheets, pm_inG 902 (by decide +kernel) rfl, pm_inG 903 (by decide +kernel) rfl, pm_inG 904 (by decide +kernel) rfl⟩
theorem mb_X12_sheets : pm_MB mX12_sheets 2 := ⟨pm_inG 57 (by decide +kernel) rfl, pm_inG 1275 (by decide +kernel) rfl, by decide +kernel, by decide +kernel, by decide +kernel⟩
theorem mk_L_159 : pm_MV RL 159 mX12_sheets 2 := ⟨mb_X12_sheets, pm_inG 1272 (by decide +kernel) rfl, pm_inG 1273 (by decide +kernel) rfl, pm_inG 1274 (by decide +kernel) rfl⟩
theorem mb_X11_count : pm_MB mX11_count 1 := ⟨pm_inG 44 (by decide +kernel) rfl, pm_inG 909 (by decide +kernel) rfl, by decide +kernel, by decide +kernel, by decide +kernel⟩
theorem mk_L_160 : pm_MV RL 160 mX11_count 1 := ⟨mb_X11_count, pm_inG 906 (by decide +kernel) rfl, pm_inG 907 (by decide +kernel) rfl, pm_inG 908 (by decide +kernel) rfl⟩
theorem mb_X12_count : pm_MB mX12_count 1 := ⟨pm_inG 57 (by decide +kernel) rfl, pm_inG 1279 (by decide +kernel) rfl, by decide +kernel, by decide +kernel, by decide +kernel⟩
theorem mk_L_163 : pm_MV RL 163 mX12_count 1 := ⟨mb_X12_count, pm_inG 1276 (by decide +kernel) rfl, pm_inG 1277 (by decide +kernel) rfl, pm_inG 1278 (by decide +kernel) rfl⟩
/-! ===== the law: its cases ===== -/
def lw_Wd (k : pm_K) (adC adM : Nat → Nat) (A : Nat → Prop) (σC σM : pm_M) (H : Heap) : Prop := va_P k.1 vwCl (pm_W k adC LAYC σC) H ∧ va_P k.1 vwCl (pm_W k adM LAYM σM) H ∧ va_D A (pm_W k adC LAYC σC) ∧ va_D A (pm_W k adM LAYM σM) ∧ ∀ i j, i < LAYC.length → j < LAYM.length → adC i ≠ adM j
theorem lw_keep {k : pm_K} {adC adM : Nat → Nat} {lay1 lay2 : List pm_S} {σM : pm_M} {H H1 : Heap} (hs : ∀ i j, i < lay1.length → j < lay2.length → adC i ≠ adM j) (hP : va_P k.1 vwCl (pm_W k adM lay2 σM) H) (hk : ∀ q : Nat, q < H.size → (∀ i, i < lay1.length → adC i ≠ q) → H1[q]? = H[q]?) : va_P k.1 vwCl (pm_W k adM lay2 σM) H1 := by
  refine hP.kept (fun j x hx => ?_)
  have h1 := pm_W_adr hx
  exact hk x.1 ((hP j x hx).lt) (fun i hi => by rw [h1.1]; exact hs i j hi h1.2)
section LD
variable {p : Program} {l : Launch} {e : Env} {s : State} {m : MethodId} {below : List Frame} {meth : Method} {c : Code} {H : Heap} {locs : List Loc} {b L i : Nat} {xs : Nat → Int32} {Q : State → Prop} {pc : Nat} {ls : Array Slot} {rest : List Value} {a1 a2 : Nat}
theorem lw_ld {j : Nat} {z : Int} (C0 : lw_At p s m meth c b L xs) (hL : L ≤ 3072) (hi : i + 6 ≤ L) (hS : va_S (fun q => s.heap.size ≤ q) s.heap H locs) (hl : lv_has ls 4 [(0, .ref b), (1, .ref a1), (2, .ref a2), (3, .int (nI i))]) (d1 : decode code pc = .ok (.aload_n 0, 1)) (d2 : decode code (pc + 1) = .ok (.iload_n 3, 1)) (d3 : decode code (pc + 2) = .ok (.iconst z, 1)) (d4 : decode code (pc + 3) = .ok (.iadd, 1)) (d5 : decode code (pc + 4) = .ok (.iaload, 1)) (hz : Int32.ofInt z = nI j) (hj : j < 6)
    (kk : W p l e room_1 s m #[Value.ref b] below meth c H locs 600000 7302249 Q (F0 m (pc + 5) ls (.int (xs (i + j)) :: rest))) : W p l e room_1 s m #[Value.ref b] below meth c H locs 600000 7302249 Q (F0 m pc ls rest) := by
  obtain ⟨hx, hb, hr, hml, hown, hts, hX, hbl, hlocks, hgv⟩ := C0
  have hbA : ¬ (fun q : Nat => s.heap.size ≤ q) b := Nat.not_le.mpr hbl
  refine lv_aload_n hx hb d1 rfl (lv_at hl 0 rfl) ?_
  refine lv_iload_n hx hb d2 rfl (lv_at hl 3 rfl) ?_
  refine lv_iconst hx hb d3 hz ?_
  refine lv_iadd hx hb d4 ?_
  rw [nI_add]
  refine va_sld hx hb hX hbl hbA hS (vp_in_nI (by omega) (by omega)) d5 ?_
  rw [nI_clamp (by omega)]
  exact kk
end LD
def sp_day (Rl : pm_M → pm_M → Prop) : Prop := ∀ (x1 x2 x3 : Int32) (σC σM : pm_M), Rl σC σM → ∃ ρC ρM, fX11_day x1.toInt x2.toInt x3.toInt σC = some ρC ∧ fX12_day x1.toInt x2.toInt x3.toInt σM = some ρM ∧ wr ρC.1 = wr ρM.1 ∧ Rl ρC.2 ρM.2
def sp_dayOf (Rl : pm_M → pm_M → Prop) : Prop := ∀ (x1 x2 : Int32) (σC σM : pm_M), Rl σC σM → ∃ ρC ρM, fX11_dayOf x1.toInt x2.toInt σC = some ρC ∧ fX12_dayOf x1.toInt x2.toInt σM = some ρM ∧ wr ρC.1 = wr ρM.1 ∧ Rl ρC.2 ρM.2
def sp_kind (Rl : pm_M → pm_M → Prop) : Prop := ∀ (x1 x2 x3 x4 : Int32) (σC σM : pm_M), Rl σC σM → ∃ ρC ρM, fX11_kind x1.toInt x2.toInt x3.toInt x4.toInt σC = some ρC ∧ fX12_kind x1.toInt x2.toInt x3.toInt x4.toInt σM = some ρM ∧ wr ρC.1 = wr ρM.1 ∧ Rl ρC.2 ρM.2
def sp_rags (Rl : pm_M → pm_M → Prop) : Prop := ∀ (x1 x2 : Int32) (σC σM : pm_M), Rl σC σM → ∃ ρC ρM, fX11_rags x1.toInt x2.toInt σC = some ρC ∧ fX12_rags x1.toInt x2.toInt σM = some ρM ∧ wr ρC.1 = wr ρM.1 ∧ Rl ρC.2 ρM.2
def sp_heap (Rl : pm_M → pm_M → Prop) : Prop := ∀ (x1 x2 : Int32) (σC σM : pm_M), Rl σC σM → ∃ ρC ρM, fX11_heap x1.toInt x2.toInt σC = some ρC ∧ fX12_heap x1.toInt x2.toInt σM = some ρM ∧ wr ρC.1 = wr ρM.1 ∧ Rl ρC.2 ρM.2
def sp_load (Rl : pm_M → pm_M → Prop) : Prop := ∀ (x1 x2 x3 : Int32) (σC σM : pm_M), Rl σC σM → ∃ ρC ρM, fX11_load x1.toInt x2.toInt x3.toInt σC = some ρC ∧ fX12_load x1.toInt x2.toInt x3.toInt σM = some ρM ∧ wr ρC.1 = wr ρM.1 ∧ Rl ρC.2 ρM.2
def sp_pair (Rl : pm_M → pm_M → Prop) : Prop := ∀ (x1 : Int32) (σC σM : pm_M), Rl σC σM → ∃ ρC ρM, fX11_pair x1.toInt σC = some ρC ∧ fX12_pair x1.toInt σM = some ρM ∧ wr ρC.1 = wr ρM.1 ∧ Rl ρC.2 ρM.2
def sp_wire (Rl : pm_M → pm_M → Prop) : Prop := ∀ (x1 x2 x3 : Int32) (σC σM : pm_M), Rl σC σM → ∃ ρC ρM, fX11_wire x1.toInt x2.toInt x3.toInt σC = some ρC ∧ fX12_wire x1.toInt x2.toInt x3.toInt σM = some ρM ∧ wr ρC.1 = wr ρM.1 ∧ Rl ρC.2 ρM.2
def sp_mouldOf (Rl : pm_M → pm_M → Prop) : Prop := ∀ (x1 x2 : Int32) (σC σM : pm_M), Rl σC σM → ∃ ρC ρM, fX11_mouldOf x1.toInt x2.toInt σC = some ρC ∧ fX12_mouldOf x1.toInt x2.toInt σM = some ρM ∧ wr ρC.1 = wr ρM.1 ∧ Rl ρC.2 ρM.2
def sp_vat (Rl : pm_M → pm_M → Prop) : Prop := ∀ (x1 x2 : Int32) (σC σM : pm_M), Rl σC σM → ∃ ρC ρM, fX11_vat x1.toInt x2.toInt σC = some ρC ∧ fX12_vat x1.toInt x2.toInt σM = some ρM ∧ wr ρC.1 = wr ρM.1 ∧ Rl ρC.2 ρM.2
def sp_furnish (Rl : pm_M → pm_M → Prop) : Prop := ∀ (x1 x2 : Int32) (σC σM : pm_M), Rl σC σM → ∃ ρC ρM, fX11_furnish x1.toInt x2.toInt σC = some ρC ∧ fX12_furnish x1.toInt x2.toInt σM = some ρM ∧ wr ρC.1 = wr ρM.1 ∧ Rl ρC.2 ρM.2
def sp_loft (Rl : pm_M → pm_M → Prop) : Prop := ∀ (x1 : Int32) (σC σM : pm_M), Rl σC σM → ∃ ρC ρM, fX11_loft x1.toInt σC = some ρC ∧ fX12_loft x1.toInt σM = some ρM ∧ wr ρC.1 = wr ρM.1 ∧ Rl ρC.2 ρM.2
def sp_hides (Rl : pm_M → pm_M → Prop) : Prop := ∀ (x1 : Int32) (σC σM : pm_M), Rl σC σM → ∃ ρC ρM, fX11_hides x1.toInt σC = some ρC ∧ fX12_hides x1.toInt σM = some ρM ∧ wr ρC.1 = wr ρM.1 ∧ Rl ρC.2 ρM.2
def sp_size (Rl : pm_M → pm_M → Prop) : Prop := ∀ (x1 : Int32) (σC σM : pm_M), Rl σC σM → ∃ ρC ρM, fX11_size x1.toInt σC = some ρC ∧ fX12_size x1.toInt σM = some ρM ∧ wr ρC.1 = wr ρM.1 ∧ Rl ρC.2 ρM.2
def sp_sizeAll (Rl : pm_M → pm_M → Prop) : Prop := ∀ (σC σM : pm_M), Rl σC σM → ∃ ρC ρM, fX11_sizeAll σC = some ρC ∧ fX12_sizeAll σM = some ρM ∧ wr ρC.1 = wr ρM.1 ∧ Rl ρC.2 ρM.2
def sp_duty (Rl : pm_M → pm_M → Prop) : Prop := ∀ (x1 x2 : Int32) (σC σM : pm_M), Rl σC σM → ∃ ρC ρM, fX11_duty x1.toInt x2.toInt σC = some ρC ∧ fX12_duty x1.toInt x2.toInt σM = some ρM ∧ wr ρC.1 = wr ρM.1 ∧ Rl ρC.2 ρM.2
def sp_order (Rl : pm_M → pm_M → Prop) : Prop := ∀ (x1 x2 x3 x4 x5 : Int32) (σC σM : pm_M), Rl σC σM → ∃ ρC ρM, fX11_order x1.toInt x2.toInt x3.toInt x4.toInt x5.toInt σC = some ρC ∧ fX12_order x1.toInt x2.toInt x3.toInt x4.toInt x5.toInt σM = some ρM ∧ wr ρC.1 = wr ρM.1 ∧ Rl ρC.2 ρM.2
def sp_fill (Rl : pm_M → pm_M → Prop) : Prop := ∀ (x1 : Int32) (σC σM : pm_M), Rl σC σM → ∃ ρC ρM, fX11_fill x1.toInt σC = some ρC ∧ fX12_fill x1.toInt σM = some ρM ∧ wr ρC.1 = wr ρM.1 ∧ Rl ρC.2 ρM.2
def sp_best (Rl : pm_M → pm_M → Prop) : Prop := ∀ (x1 : Int32) (σC σM : pm_M), Rl σC σM → ∃ ρC ρM, fX11_best x1.toInt σC = some ρC ∧ fX12_best x1.toInt σM = some ρM ∧ wr ρC.1 = wr ρM.1 ∧ Rl ρC.2 ρM.2
def sp_bestWorth (Rl : pm_M → pm_M → Prop) : Prop := ∀ (x1 : Int32) (σC σM : pm_M), Rl σC σM → ∃ ρC ρM, fX11_bestWorth x1.toInt σC = some ρC ∧ fX12_bestWorth x1.toInt σM = some ρM ∧ wr ρC.1 = wr ρM.1 ∧ Rl ρC.2 ρM.2
def sp_hours (Rl : pm_M → pm_M → Prop) : Prop := ∀ (x1 : Int32) (σC σM : pm_M), Rl σC σM → ∃ ρC ρM, fX11_hours x1.toInt σC = some ρC ∧ fX12_hours x1.toInt σM = some ρM ∧ wr ρC.1 = wr ρM.1 ∧ Rl ρC.2 ρM.2
def sp_foretell (Rl : pm_M → pm_M → Prop) : Prop := ∀ (x1 x2 : Int32) (σC σM : pm_M), Rl σC σM → ∃ ρC ρM, fX11_foretell x1.toInt x2.toInt σC = some ρC ∧ fX12_foretell x1.toInt x2.toInt σM = some ρM ∧ wr ρC.1 = wr ρM.1 ∧ Rl ρC.2 ρM.2
def sp_when (Rl : pm_M → pm_M → Prop) : Prop := ∀ (x1 : Int32) (σC σM : pm_M), Rl σC σM → ∃ ρC ρM, fX11_when x1.toInt σC = some ρC ∧ fX12_when x1.toInt σM = some ρM ∧ wr ρC.1 = wr ρM.1 ∧ Rl ρC.2 ρM.2
def sp_mark (Rl : pm_M → pm_M → Prop) : Prop := ∀ (x1 x2 x3 : Int32) (σC σM : pm_M), Rl σC σM → ∃ ρC ρM, fX11_mark x1.toInt x2.toInt x3.toInt σC = some ρC ∧ fX12_mark x1.toInt x2.toInt x3.toInt σM = some ρM ∧ wr ρC.1 = wr ρM.1 ∧ Rl ρC.2 ρM.2
def sp_oldA (Rl : pm_M → pm_M → Prop) : Prop := ∀ (x1 x2 x3 : Int32) (σC σM : pm_M), Rl σC σM → ∃ ρC ρM, fX11_oldA x1.toInt x2.toInt x3.toInt σC = some ρC ∧ fX12_oldA x1.toInt x2.toInt x3.toInt σM = some ρM ∧ wr ρC.1 = wr ρM.1 ∧ Rl ρC.2 ρM.2
def sp_oldB (Rl : pm_M → pm_M → Prop) : Prop := ∀ (x1 x2 x3 : Int32) (σC σM : pm_M), Rl σC σM → ∃ ρC ρM, fX11_oldB x1.toInt x2.toInt x3.toInt σC = some ρC ∧ fX12_oldB x1.toInt x2.toInt x3.toInt σM = some ρM ∧ wr ρC.1 = wr ρM.1 ∧ Rl ρC.2 ρM.2
def sp_lies (Rl : pm_M → pm_M → Prop) : Prop := ∀ (x1 : Int32) (σC σM : pm_M), Rl σC σM → ∃ ρC ρM, fX11_lies x1.toInt σC = some ρC ∧ fX12_lies x1.toInt σM = some ρM ∧ wr ρC.1 = wr ρM.1 ∧ Rl ρC.2 ρM.2
def sp_nearest (Rl : pm_M → pm_M → Prop) : Prop := ∀ (x1 : Int32) (σC σM : pm_M), Rl σC σM → ∃ ρC ρM, fX11_nearest x1.toInt σC = some ρC ∧ fX12_nearest x1.toInt σM = some ρM ∧ wr ρC.1 = wr ρM.1 ∧ Rl ρC.2 ρM.2
def sp_span (Rl : pm_M → pm_M → Prop) : Prop := ∀ (x1 x2 x3 : Int32) (σC σM : pm_M), Rl σC σM → ∃ ρC ρM, fX11_span x1.toInt x2.toInt (if x3 = 0 then 0 else 1) σC = some ρC ∧ fX12_span x1.toInt x2.toInt (if x3 = 0 then 0 else 1) σM = some ρM ∧ wr ρC.1 = wr ρM.1 ∧ Rl ρC.2 ρM.2
def sp_heapOf (Rl : pm_M → pm_M → Prop) : Prop := ∀ (x1 x2 : Int32) (σC σM : pm_M), Rl σC σM → ∃ ρC ρM, fX11_heapOf x1.toInt x2.toInt σC = some ρC ∧ fX12_heapOf x1.toInt x2.toInt σM = some ρM ∧ wr ρC.1 = wr ρM.1 ∧ Rl ρC.2 ρM.2
def sp_beaterOf (Rl : pm_M → pm_M → Prop) : Prop := ∀ (x1 x2 : Int32) (σC σM : pm_M), Rl σC σM → ∃ ρC ρM, fX11_beaterOf x1.toInt x2.toInt σC = some ρC ∧ fX12_beaterOf x1.toInt x2.toInt σM = some ρM ∧ wr ρC.1 = wr ρM.1 ∧ Rl ρC.2 ρM.2
def sp_vatOf (Rl : pm_M → pm_M → Prop) : Prop := ∀ (x1 x2 : Int32) (σC σM : pm_M), Rl σC σM → ∃ ρC ρM, fX11_vatOf x1.toInt x2.toInt σC = some ρC ∧ fX12_vatOf x1.toInt x2.toInt σM = some ρM ∧ wr ρC.1 = wr ρM.1 ∧ Rl ρC.2 ρM.2
def sp_postOf (Rl : pm_M → pm_M → Prop) : Prop := ∀ (x1 x2 : Int32) (σC σM : pm_M), Rl σC σM → ∃ ρC ρM, fX11_postOf x1.toInt x2.toInt σC = some ρC ∧ fX12_postOf x1.toInt x2.toInt σM = some ρM ∧ wr ρC.1 = wr ρM.1 ∧ Rl ρC.2 ρM.2
def sp_orderOf (Rl : pm_M → pm_M → Prop) : Prop := ∀ (x1 x2 : Int32) (σC σM : pm_M), Rl σC σM → ∃ ρC ρM, fX11_orderOf x1.toInt x2.toInt σC = some ρC ∧ fX12_orderOf x1.toInt x2.toInt σM = some ρM ∧ wr ρC.1 = wr ρM.1 ∧ Rl ρC.2 ρM.2
def sp_sheets (Rl : pm_M → pm_M → Prop) : Prop := ∀ (x1 x2 : Int32) (σC σM : pm_M), Rl σC σM → ∃ ρC ρM, fX11_sheets x1.toInt x2.toInt σC = some ρC ∧ fX12_sheets x1.toInt x2.toInt σM = some ρM ∧ wr ρC.1 = wr ρM.1 ∧ Rl ρC.2 ρM.2
def sp_count (Rl : pm_M → pm_M → Prop) : Prop := ∀ (x1 : Int32) (σC σM : pm_M), Rl σC σM → ∃ ρC ρM, fX11_count x1.toInt σC = some ρC ∧ fX12_count x1.toInt σM = some ρM ∧ wr ρC = wr ρM
def pm_Steps (Rl : pm_M → pm_M → Prop) : Prop := sp_day Rl ∧ sp_dayOf Rl ∧ sp_kind Rl ∧ sp_rags Rl ∧ sp_heap Rl ∧ sp_load Rl ∧ sp_pair Rl ∧ sp_wire Rl ∧ sp_mouldOf Rl ∧ sp_vat Rl ∧ sp_furnish Rl ∧ sp_loft Rl ∧ sp_hides Rl ∧ sp_size Rl ∧ sp_sizeAll Rl ∧ sp_duty Rl ∧ sp_order Rl ∧ sp_fill Rl ∧ sp_best Rl ∧ sp_bestWorth Rl ∧ sp_hours Rl ∧ sp_foretell Rl ∧ sp_when Rl ∧ sp_mark Rl ∧ sp_oldA Rl ∧ sp_oldB Rl ∧ sp_lies Rl ∧ sp_nearest Rl ∧ sp_span Rl ∧ sp_heapOf Rl ∧ sp_beaterOf Rl ∧ sp_vatOf Rl ∧ sp_postOf Rl ∧ sp_orderOf Rl ∧ sp_sheets Rl ∧ sp_count Rl
