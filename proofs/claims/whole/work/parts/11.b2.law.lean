def tb_L_law_6 : List (Nat × Instr × Nat) := [(536, .laload, 1), (537, .iload 6, 2), (539, .i2l, 1), (540, .lcmp, 1), (541, .ifCond .eq 5, 3), (544, .iconst 0, 1), (545, .ireturn, 1), (546, .goto 428, 3), (549, .aload_n 1, 1), (550, .invokevirtual 97, 3), (553, .aload_n 2, 1), (554, .invokevirtual 100, 3), (557, .if_icmp .eq 417, 3), (560, .iconst 0, 1), (561, .ireturn, 1), (562, .aload_n 1, 1), (563, .aload_n 0, 1), (564, .iload 4, 2), (566, .iconst 1, 1), (567, .iadd, 1), (568, .iaload, 1), (569, .aload_n 0, 1), (570, .iload 4, 2), (572, .iconst 2, 1), (573, .iadd, 1), (574, .iaload, 1), (575, .aload_n 3, 1), (576, .invokestatic 101, 3), (579, .istore 5, 2), (581, .aload_n 2, 1), (582, .aload_n 0, 1), (583, .iload 4, 2), (585, .iconst 1, 1), (586, .iadd, 1), (587, .iaload, 1), (588, .aload_n 0, 1), (589, .iload 4, 2), (591, .iconst 2, 1), (592, .iadd, 1), (593, .iaload, 1), (594, .invokevirtual 103, 3), (597, .istore 6, 2), (599, .aload_n 2, 1), (600, .invokevirtual 72, 3), (603, .iload 5, 2), (605, .if_icmp .eq 5, 3), (608, .iconst 0, 1), (609, .ireturn, 1), (610, .iload 5, 2), (612, .ifCond .ne 15, 3)]
theorem dd_L_law_6 : ∀ (i : Nat) (q : Nat × Instr × Nat), tb_L_law_6[i]? = some q → decode b_L_law q.1 = .ok (q.2.1, q.2.2) := z_tab (by decide +kernel)
theorem d_L_law_536 : decode b_L_law 536 = .ok (.laload, 1) := dd_L_law_6 0 (536, .laload, 1) rfl
theorem d_L_law_537 : decode b_L_law 537 = .ok (.iload 6, 2) := dd_L_law_6 1 (537, .iload 6, 2) rfl
theorem d_L_law_539 : decode b_L_law 539 = .ok (.i2l, 1) := dd_L_law_6 2 (539, .i2l, 1) rfl
theorem d_L_law_540 : decode b_L_law 540 = .ok (.lcmp, 1) := dd_L_law_6 3 (540, .lcmp, 1) rfl
theorem d_L_law_541 : decode b_L_law 541 = .ok (.ifCond .eq 5, 3) := dd_L_law_6 4 (541, .ifCond .eq 5, 3) rfl
theorem d_L_law_544 : decode b_L_law 544 = .ok (.iconst 0, 1) := dd_L_law_6 5 (544, .iconst 0, 1) rfl
theorem d_L_law_545 : decode b_L_law 545 = .ok (.ireturn, 1) := dd_L_law_6 6 (545, .ireturn, 1) rfl
theorem d_L_law_546 : decode b_L_law 546 = .ok (.goto 428, 3) := dd_L_law_6 7 (546, .goto 428, 3) rfl
theorem d_L_law_549 : decode b_L_law 549 = .ok (.aload_n 1, 1) := dd_L_law_6 8 (549, .aload_n 1, 1) rfl
theorem d_L_law_550 : decode b_L_law 550 = .ok (.invokevirtual 97, 3) := dd_L_law_6 9 (550, .invokevirtual 97, 3) rfl
theorem d_L_law_553 : decode b_L_law 553 = .ok (.aload_n 2, 1) := dd_L_law_6 10 (553, .aload_n 2, 1) rfl
theorem d_L_law_554 : decode b_L_law 554 = .ok (.invokevirtual 100, 3) := dd_L_law_6 11 (554, .invokevirtual 100, 3) rfl
theorem d_L_law_557 : decode b_L_law 557 = .ok (.if_icmp .eq 417, 3) := dd_L_law_6 12 (557, .if_icmp .eq 417, 3) rfl
theorem d_L_law_560 : decode b_L_law 560 = .ok (.iconst 0, 1) := dd_L_law_6 13 (560, .iconst 0, 1) rfl
theorem d_L_law_561 : decode b_L_law 561 = .ok (.ireturn, 1) := dd_L_law_6 14 (561, .ireturn, 1) rfl
theorem d_L_law_562 : decode b_L_law 562 = .ok (.aload_n 1, 1) := dd_L_law_6 15 (562, .aload_n 1, 1) rfl
theorem d_L_law_563 : decode b_L_law 563 = .ok (.aload_n 0, 1) := dd_L_law_6 16 (563, .aload_n 0, 1) rfl
theorem d_L_law_564 : decode b_L_law 564 = .ok (.iload 4, 2) := dd_L_law_6 17 (564, .iload 4, 2) rfl
theorem d_L_law_566 : decode b_L_law 566 = .ok (.iconst 1, 1) := dd_L_law_6 18 (566, .iconst 1, 1) rfl
theorem d_L_law_567 : decode b_L_law 567 = .ok (.iadd, 1) := dd_L_law_6 19 (567, .iadd, 1) rfl
theorem d_L_law_568 : decode b_L_law 568 = .ok (.iaload, 1) := dd_L_law_6 20 (568, .iaload, 1) rfl
theorem d_L_law_569 : decode b_L_law 569 = .ok (.aload_n 0, 1) := dd_L_law_6 21 (569, .aload_n 0, 1) rfl
theorem d_L_law_570 : decode b_L_law 570 = .ok (.iload 4, 2) := dd_L_law_6 22 (570, .iload 4, 2) rfl
theorem d_L_law_572 : decode b_L_law 572 = .ok (.iconst 2, 1) := dd_L_law_6 23 (572, .iconst 2, 1) rfl
theorem d_L_law_573 : decode b_L_law 573 = .ok (.iadd, 1) := dd_L_law_6 24 (573, .iadd, 1) rfl
theorem d_L_law_574 : decode b_L_law 574 = .ok (.iaload, 1) := dd_L_law_6 25 (574, .iaload, 1) rfl
theorem d_L_law_575 : decode b_L_law 575 = .ok (.aload_n 3, 1) := dd_L_law_6 26 (575, .aload_n 3, 1) rfl
theorem d_L_law_576 : decode b_L_law 576 = .ok (.invokestatic 101, 3) := dd_L_law_6 27 (576, .invokestatic 101, 3) rfl
theorem d_L_law_579 : decode b_L_law 579 = .ok (.istore 5, 2) := dd_L_law_6 28 (579, .istore 5, 2) rfl
theorem d_L_law_581 : decode b_L_law 581 = .ok (.aload_n 2, 1) := dd_L_law_6 29 (581, .aload_n 2, 1) rfl
theorem d_L_law_582 : decode b_L_law 582 = .ok (.aload_n 0, 1) := dd_L_law_6 30 (582, .aload_n 0, 1) rfl
theorem d_L_law_583 : decode b_L_law 583 = .ok (.iload 4, 2) := dd_L_law_6 31 (583, .iload 4, 2) rfl
theorem d_L_law_585 : decode b_L_law 585 = .ok (.iconst 1, 1) := dd_L_law_6 32 (585, .iconst 1, 1) rfl
theorem d_L_law_586 : decode b_L_law 586 = .ok (.iadd, 1) := dd_L_law_6 33 (586, .iadd, 1) rfl
theorem d_L_law_587 : decode b_L_law 587 = .ok (.iaload, 1) := dd_L_law_6 34 (587, .iaload, 1) rfl
theorem d_L_law_588 : decode b_L_law 588 = .ok (.aload_n 0, 1) := dd_L_law_6 35 (588, .aload_n 0, 1) rfl
theorem d_L_law_589 : decode b_L_law 589 = .ok (.iload 4, 2) := dd_L_law_6 36 (589, .iload 4, 2) rfl
theorem d_L_law_591 : decode b_L_law 591 = .ok (.iconst 2, 1) := dd_L_law_6 37 (591, .iconst 2, 1) rfl
theorem d_L_law_592 : decode b_L_law 592 = .ok (.iadd, 1) := dd_L_law_6 38 (592, .iadd, 1) rfl
theorem d_L_law_593 : decode b_L_law 593 = .ok (.iaload, 1) := dd_L_law_6 39 (593, .iaload, 1) rfl
theorem d_L_law_594 : decode b_L_law 594 = .ok (.invokevirtual 103, 3) := dd_L_law_6 40 (594, .invokevirtual 103, 3) rfl
theorem d_L_law_597 : decode b_L_law 597 = .ok (.istore 6, 2) := dd_L_law_6 41 (597, .istore 6, 2) rfl
theorem d_L_law_599 : decode b_L_law 599 = .ok (.aload_n 2, 1) := dd_L_law_6 42 (599, .aload_n 2, 1) rfl
theorem d_L_law_600 : decode b_L_law 600 = .ok (.invokevirtual 72, 3) := dd_L_law_6 43 (600, .invokevirtual 72, 3) rfl
theorem d_L_law_603 : decode b_L_law 603 = .ok (.iload 5, 2) := dd_L_law_6 44 (603, .iload 5, 2) rfl
theorem d_L_law_605 : decode b_L_law 605 = .ok (.if_icmp .eq 5, 3) := dd_L_law_6 45 (605, .if_icmp .eq 5, 3) rfl
theorem d_L_law_608 : decode b_L_law 608 = .ok (.iconst 0, 1) := dd_L_law_6 46 (608, .iconst 0, 1) rfl
theorem d_L_law_609 : decode b_L_law 609 = .ok (.ireturn, 1) := dd_L_law_6 47 (609, .ireturn, 1) rfl
theorem d_L_law_610 : decode b_L_law 610 = .ok (.iload 5, 2) := dd_L_law_6 48 (610, .iload 5, 2) rfl
theorem d_L_law_612 : decode b_L_law 612 = .ok (.ifCond .ne 15, 3) := dd_L_law_6 49 (612, .ifCond .ne 15, 3) rfl
def tb_L_law_7 : List (Nat × Instr × Nat) := [(615, .aload_n 3, 1), (616, .iconst 0, 1), (617, .laload, 1), (618, .iload 6, 2), (620, .i2l, 1), (621, .lcmp, 1), (622, .ifCond .eq 5, 3), (625, .iconst 0, 1), (626, .ireturn, 1), (627, .goto 347, 3), (630, .aload_n 1, 1), (631, .aload_n 0, 1), (632, .iload 4, 2), (634, .iconst 1, 1), (635, .iadd, 1), (636, .iaload, 1), (637, .aload_n 0, 1), (638, .iload 4, 2), (640, .iconst 2, 1), (641, .iadd, 1), (642, .iaload, 1), (643, .aload_n 3, 1), (644, .invokestatic 104, 3), (647, .istore 5, 2), (649, .aload_n 2, 1), (650, .aload_n 0, 1), (651, .iload 4, 2), (653, .iconst 1, 1), (654, .iadd, 1), (655, .iaload, 1), (656, .aload_n 0, 1), (657, .iload 4, 2), (659, .iconst 2, 1), (660, .iadd, 1), (661, .iaload, 1), (662, .invokevirtual 106, 3), (665, .istore 6, 2), (667, .aload_n 2, 1), (668, .invokevirtual 72, 3), (671, .iload 5, 2), (673, .if_icmp .eq 5, 3), (676, .iconst 0, 1), (677, .ireturn, 1), (678, .iload 5, 2), (680, .ifCond .ne 15, 3), (683, .aload_n 3, 1), (684, .iconst 0, 1), (685, .laload, 1), (686, .iload 6, 2), (688, .i2l, 1)]
theorem dd_L_law_7 : ∀ (i : Nat) (q : Nat × Instr × Nat), tb_L_law_7[i]? = some q → decode b_L_law q.1 = .ok (q.2.1, q.2.2) := z_tab (by decide +kernel)
theorem d_L_law_615 : decode b_L_law 615 = .ok (.aload_n 3, 1) := dd_L_law_7 0 (615, .aload_n 3, 1) rfl
theorem d_L_law_616 : decode b_L_law 616 = .ok (.iconst 0, 1) := dd_L_law_7 1 (616, .iconst 0, 1) rfl
theorem d_L_law_617 : decode b_L_law 617 = .ok (.laload, 1) := dd_L_law_7 2 (617, .laload, 1) rfl
theorem d_L_law_618 : decode b_L_law 618 = .ok (.iload 6, 2) := dd_L_law_7 3 (618, .iload 6, 2) rfl
theorem d_L_law_620 : decode b_L_law 620 = .ok (.i2l, 1) := dd_L_law_7 4 (620, .i2l, 1) rfl
theorem d_L_law_621 : decode b_L_law 621 = .ok (.lcmp, 1) := dd_L_law_7 5 (621, .lcmp, 1) rfl
theorem d_L_law_622 : decode b_L_law 622 = .ok (.ifCond .eq 5, 3) := dd_L_law_7 6 (622, .ifCond .eq 5, 3) rfl
theorem d_L_law_625 : decode b_L_law 625 = .ok (.iconst 0, 1) := dd_L_law_7 7 (625, .iconst 0, 1) rfl
theorem d_L_law_626 : decode b_L_law 626 = .ok (.ireturn, 1) := dd_L_law_7 8 (626, .ireturn, 1) rfl
theorem d_L_law_627 : decode b_L_law 627 = .ok (.goto 347, 3) := dd_L_law_7 9 (627, .goto 347, 3) rfl
theorem d_L_law_630 : decode b_L_law 630 = .ok (.aload_n 1, 1) := dd_L_law_7 10 (630, .aload_n 1, 1) rfl
theorem d_L_law_631 : decode b_L_law 631 = .ok (.aload_n 0, 1) := dd_L_law_7 11 (631, .aload_n 0, 1) rfl
theorem d_L_law_632 : decode b_L_law 632 = .ok (.iload 4, 2) := dd_L_law_7 12 (632, .iload 4, 2) rfl
theorem d_L_law_634 : decode b_L_law 634 = .ok (.iconst 1, 1) := dd_L_law_7 13 (634, .iconst 1, 1) rfl
theorem d_L_law_635 : decode b_L_law 635 = .ok (.iadd, 1) := dd_L_law_7 14 (635, .iadd, 1) rfl
theorem d_L_law_636 : decode b_L_law 636 = .ok (.iaload, 1) := dd_L_law_7 15 (636, .iaload, 1) rfl
theorem d_L_law_637 : decode b_L_law 637 = .ok (.aload_n 0, 1) := dd_L_law_7 16 (637, .aload_n 0, 1) rfl
theorem d_L_law_638 : decode b_L_law 638 = .ok (.iload 4, 2) := dd_L_law_7 17 (638, .iload 4, 2) rfl
theorem d_L_law_640 : decode b_L_law 640 = .ok (.iconst 2, 1) := dd_L_law_7 18 (640, .iconst 2, 1) rfl
theorem d_L_law_641 : decode b_L_law 641 = .ok (.iadd, 1) := dd_L_law_7 19 (641, .iadd, 1) rfl
theorem d_L_law_642 : decode b_L_law 642 = .ok (.iaload, 1) := dd_L_law_7 20 (642, .iaload, 1) rfl
theorem d_L_law_643 : decode b_L_law 643 = .ok (.aload_n 3, 1) := dd_L_law_7 21 (643, .aload_n 3, 1) rfl
theorem d_L_law_644 : decode b_L_law 644 = .ok (.invokestatic 104, 3) := dd_L_law_7 22 (644, .invokestatic 104, 3) rfl
theorem d_L_law_647 : decode b_L_law 647 = .ok (.istore 5, 2) := dd_L_law_7 23 (647, .istore 5, 2) rfl
theorem d_L_law_649 : decode b_L_law 649 = .ok (.aload_n 2, 1) := dd_L_law_7 24 (649, .aload_n 2, 1) rfl
theorem d_L_law_650 : decode b_L_law 650 = .ok (.aload_n 0, 1) := dd_L_law_7 25 (650, .aload_n 0, 1) rfl
theorem d_L_law_651 : decode b_L_law 651 = .ok (.iload 4, 2) := dd_L_law_7 26 (651, .iload 4, 2) rfl
theorem d_L_law_653 : decode b_L_law 653 = .ok (.iconst 1, 1) := dd_L_law_7 27 (653, .iconst 1, 1) rfl
theorem d_L_law_654 : decode b_L_law 654 = .ok (.iadd, 1) := dd_L_law_7 28 (654, .iadd, 1) rfl
theorem d_L_law_655 : decode b_L_law 655 = .ok (.iaload, 1) := dd_L_law_7 29 (655, .iaload, 1) rfl
theorem d_L_law_656 : decode b_L_law 656 = .ok (.aload_n 0, 1) := dd_L_law_7 30 (656, .aload_n 0, 1) rfl
theorem d_L_law_657 : decode b_L_law 657 = .ok (.iload 4, 2) := dd_L_law_7 31 (657, .iload 4, 2) rfl
theorem d_L_law_659 : decode b_L_law 659 = .ok (.iconst 2, 1) := dd_L_law_7 32 (659, .iconst 2, 1) rfl
theorem d_L_law_660 : decode b_L_law 660 = .ok (.iadd, 1) := dd_L_law_7 33 (660, .iadd, 1) rfl
theorem d_L_law_661 : decode b_L_law 661 = .ok (.iaload, 1) := dd_L_law_7 34 (661, .iaload, 1) rfl
theorem d_L_law_662 : decode b_L_law 662 = .ok (.invokevirtual 106, 3) := dd_L_law_7 35 (662, .invokevirtual 106, 3) rfl
theorem d_L_law_665 : decode b_L_law 665 = .ok (.istore 6, 2) := dd_L_law_7 36 (665, .istore 6, 2) rfl
theorem d_L_law_667 : decode b_L_law 667 = .ok (.aload_n 2, 1) := dd_L_law_7 37 (667, .aload_n 2, 1) rfl
theorem d_L_law_668 : decode b_L_law 668 = .ok (.invokevirtual 72, 3) := dd_L_law_7 38 (668, .invokevirtual 72, 3) rfl
theorem d_L_law_671 : decode b_L_law 671 = .ok (.iload 5, 2) := dd_L_law_7 39 (671, .iload 5, 2) rfl
theorem d_L_law_673 : decode b_L_law 673 = .ok (.if_icmp .eq 5, 3) := dd_L_law_7 40 (673, .if_icmp .eq 5, 3) rfl
theorem d_L_law_676 : decode b_L_law 676 = .ok (.iconst 0, 1) := dd_L_law_7 41 (676, .iconst 0, 1) rfl
theorem d_L_law_677 : decode b_L_law 677 = .ok (.ireturn, 1) := dd_L_law_7 42 (677, .ireturn, 1) rfl
theorem d_L_law_678 : decode b_L_law 678 = .ok (.iload 5, 2) := dd_L_law_7 43 (678, .iload 5, 2) rfl
theorem d_L_law_680 : decode b_L_law 680 = .ok (.ifCond .ne 15, 3) := dd_L_law_7 44 (680, .ifCond .ne 15, 3) rfl
theorem d_L_law_683 : decode b_L_law 683 = .ok (.aload_n 3, 1) := dd_L_law_7 45 (683, .aload_n 3, 1) rfl
theorem d_L_law_684 : decode b_L_law 684 = .ok (.iconst 0, 1) := dd_L_law_7 46 (684, .iconst 0, 1) rfl
theorem d_L_law_685 : decode b_L_law 685 = .ok (.laload, 1) := dd_L_law_7 47 (685, .laload, 1) rfl
theorem d_L_law_686 : decode b_L_law 686 = .ok (.iload 6, 2) := dd_L_law_7 48 (686, .iload 6, 2) rfl
theorem d_L_law_688 : decode b_L_law 688 = .ok (.i2l, 1) := dd_L_law_7 49 (688, .i2l, 1) rfl
def tb_L_law_8 : List (Nat × Instr × Nat) := [(689, .lcmp, 1), (690, .ifCond .eq 5, 3), (693, .iconst 0, 1), (694, .ireturn, 1), (695, .goto 279, 3), (698, .aload_n 1, 1), (699, .aload_n 3, 1), (700, .invokestatic 107, 3), (703, .istore 5, 2), (705, .aload_n 2, 1), (706, .invokevirtual 109, 3), (709, .lstore 6, 2), (711, .aload_n 2, 1), (712, .invokevirtual 72, 3), (715, .iload 5, 2), (717, .if_icmp .eq 5, 3), (720, .iconst 0, 1), (721, .ireturn, 1), (722, .iload 5, 2), (724, .ifCond .ne 14, 3), (727, .aload_n 3, 1), (728, .iconst 0, 1), (729, .laload, 1), (730, .lload 6, 2), (732, .lcmp, 1), (733, .ifCond .eq 5, 3), (736, .iconst 0, 1), (737, .ireturn, 1), (738, .goto 236, 3), (741, .aload_n 1, 1), (742, .aload_n 0, 1), (743, .iload 4, 2), (745, .iconst 1, 1), (746, .iadd, 1), (747, .iaload, 1), (748, .aload_n 0, 1), (749, .iload 4, 2), (751, .iconst 2, 1), (752, .iadd, 1), (753, .iaload, 1), (754, .aload_n 0, 1), (755, .iload 4, 2), (757, .iconst 3, 1), (758, .iadd, 1), (759, .iaload, 1), (760, .aload_n 0, 1), (761, .iload 4, 2), (763, .iconst 4, 1), (764, .iadd, 1), (765, .iaload, 1)]
theorem dd_L_law_8 : ∀ (i : Nat) (q : Nat × Instr × Nat), tb_L_law_8[i]? = some q → decode b_L_law q.1 = .ok (q.2.1, q.2.2) := z_tab (by decide +kernel)
theorem d_L_law_689 : decode b_L_law 689 = .ok (.lcmp, 1) := dd_L_law_8 0 (689, .lcmp, 1) rfl
theorem d_L_law_690 : decode b_L_law 690 = .ok (.ifCond .eq 5, 3) := dd_L_law_8 1 (690, .ifCond .eq 5, 3) rfl
theorem d_L_law_693 : decode b_L_law 693 = .ok (.iconst 0, 1) := dd_L_law_8 2 (693, .iconst 0, 1) rfl
theorem d_L_law_694 : decode b_L_law 694 = .ok (.ireturn, 1) := dd_L_law_8 3 (694, .ireturn, 1) rfl
theorem d_L_law_695 : decode b_L_law 695 = .ok (.goto 279, 3) := dd_L_law_8 4 (695, .goto 279, 3) rfl
theorem d_L_law_698 : decode b_L_law 698 = .ok (.aload_n 1, 1) := dd_L_law_8 5 (698, .aload_n 1, 1) rfl
theorem d_L_law_699 : decode b_L_law 699 = .ok (.aload_n 3, 1) := dd_L_law_8 6 (699, .aload_n 3, 1) rfl
theorem d_L_law_700 : decode b_L_law 700 = .ok (.invokestatic 107, 3) := dd_L_law_8 7 (700, .invokestatic 107, 3) rfl
theorem d_L_law_703 : decode b_L_law 703 = .ok (.istore 5, 2) := dd_L_law_8 8 (703, .istore 5, 2) rfl
theorem d_L_law_705 : decode b_L_law 705 = .ok (.aload_n 2, 1) := dd_L_law_8 9 (705, .aload_n 2, 1) rfl
theorem d_L_law_706 : decode b_L_law 706 = .ok (.invokevirtual 109, 3) := dd_L_law_8 10 (706, .invokevirtual 109, 3) rfl
theorem d_L_law_709 : decode b_L_law 709 = .ok (.lstore 6, 2) := dd_L_law_8 11 (709, .lstore 6, 2) rfl
theorem d_L_law_711 : decode b_L_law 711 = .ok (.aload_n 2, 1) := dd_L_law_8 12 (711, .aload_n 2, 1) rfl
theorem d_L_law_712 : decode b_L_law 712 = .ok (.invokevirtual 72, 3) := dd_L_law_8 13 (712, .invokevirtual 72, 3) rfl
theorem d_L_law_715 : decode b_L_law 715 = .ok (.iload 5, 2) := dd_L_law_8 14 (715, .iload 5, 2) rfl
theorem d_L_law_717 : decode b_L_law 717 = .ok (.if_icmp .eq 5, 3) := dd_L_law_8 15 (717, .if_icmp .eq 5, 3) rfl
theorem d_L_law_720 : decode b_L_law 720 = .ok (.iconst 0, 1) := dd_L_law_8 16 (720, .iconst 0, 1) rfl
theorem d_L_law_721 : decode b_L_law 721 = .ok (.ireturn, 1) := dd_L_law_8 17 (721, .ireturn, 1) rfl
theorem d_L_law_722 : decode b_L_law 722 = .ok (.iload 5, 2) := dd_L_law_8 18 (722, .iload 5, 2) rfl
theorem d_L_law_724 : decode b_L_law 724 = .ok (.ifCond .ne 14, 3) := dd_L_law_8 19 (724, .ifCond .ne 14, 3) rfl
theorem d_L_law_727 : decode b_L_law 727 = .ok (.aload_n 3, 1) := dd_L_law_8 20 (727, .aload_n 3, 1) rfl
theorem d_L_law_728 : decode b_L_law 728 = .ok (.iconst 0, 1) := dd_L_law_8 21 (728, .iconst 0, 1) rfl
theorem d_L_law_729 : decode b_L_law 729 = .ok (.laload, 1) := dd_L_law_8 22 (729, .laload, 1) rfl
theorem d_L_law_730 : decode b_L_law 730 = .ok (.lload 6, 2) := dd_L_law_8 23 (730, .lload 6, 2) rfl
theorem d_L_law_732 : decode b_L_law 732 = .ok (.lcmp, 1) := dd_L_law_8 24 (732, .lcmp, 1) rfl
theorem d_L_law_733 : decode b_L_law 733 = .ok (.ifCond .eq 5, 3) := dd_L_law_8 25 (733, .ifCond .eq 5, 3) rfl
theorem d_L_law_736 : decode b_L_law 736 = .ok (.iconst 0, 1) := dd_L_law_8 26 (736, .iconst 0, 1) rfl
theorem d_L_law_737 : decode b_L_law 737 = .ok (.ireturn, 1) := dd_L_law_8 27 (737, .ireturn, 1) rfl
theorem d_L_law_738 : decode b_L_law 738 = .ok (.goto 236, 3) := dd_L_law_8 28 (738, .goto 236, 3) rfl
theorem d_L_law_741 : decode b_L_law 741 = .ok (.aload_n 1, 1) := dd_L_law_8 29 (741, .aload_n 1, 1) rfl
theorem d_L_law_742 : decode b_L_law 742 = .ok (.aload_n 0, 1) := dd_L_law_8 30 (742, .aload_n 0, 1) rfl
theorem d_L_law_743 : decode b_L_law 743 = .ok (.iload 4, 2) := dd_L_law_8 31 (743, .iload 4, 2) rfl
theorem d_L_law_745 : decode b_L_law 745 = .ok (.iconst 1, 1) := dd_L_law_8 32 (745, .iconst 1, 1) rfl
theorem d_L_law_746 : decode b_L_law 746 = .ok (.iadd, 1) := dd_L_law_8 33 (746, .iadd, 1) rfl
theorem d_L_law_747 : decode b_L_law 747 = .ok (.iaload, 1) := dd_L_law_8 34 (747, .iaload, 1) rfl
theorem d_L_law_748 : decode b_L_law 748 = .ok (.aload_n 0, 1) := dd_L_law_8 35 (748, .aload_n 0, 1) rfl
theorem d_L_law_749 : decode b_L_law 749 = .ok (.iload 4, 2) := dd_L_law_8 36 (749, .iload 4, 2) rfl
theorem d_L_law_751 : decode b_L_law 751 = .ok (.iconst 2, 1) := dd_L_law_8 37 (751, .iconst 2, 1) rfl
theorem d_L_law_752 : decode b_L_law 752 = .ok (.iadd, 1) := dd_L_law_8 38 (752, .iadd, 1) rfl
theorem d_L_law_753 : decode b_L_law 753 = .ok (.iaload, 1) := dd_L_law_8 39 (753, .iaload, 1) rfl
theorem d_L_law_754 : decode b_L_law 754 = .ok (.aload_n 0, 1) := dd_L_law_8 40 (754, .aload_n 0, 1) rfl
theorem d_L_law_755 : decode b_L_law 755 = .ok (.iload 4, 2) := dd_L_law_8 41 (755, .iload 4, 2) rfl
theorem d_L_law_757 : decode b_L_law 757 = .ok (.iconst 3, 1) := dd_L_law_8 42 (757, .iconst 3, 1) rfl
theorem d_L_law_758 : decode b_L_law 758 = .ok (.iadd, 1) := dd_L_law_8 43 (758, .iadd, 1) rfl
theorem d_L_law_759 : decode b_L_law 759 = .ok (.iaload, 1) := dd_L_law_8 44 (759, .iaload, 1) rfl
theorem d_L_law_760 : decode b_L_law 760 = .ok (.aload_n 0, 1) := dd_L_law_8 45 (760, .aload_n 0, 1) rfl
theorem d_L_law_761 : decode b_L_law 761 = .ok (.iload 4, 2) := dd_L_law_8 46 (761, .iload 4, 2) rfl
theorem d_L_law_763 : decode b_L_law 763 = .ok (.iconst 4, 1) := dd_L_law_8 47 (763, .iconst 4, 1) rfl
theorem d_L_law_764 : decode b_L_law 764 = .ok (.iadd, 1) := dd_L_law_8 48 (764, .iadd, 1) rfl
theorem d_L_law_765 : decode b_L_law 765 = .ok (.iaload, 1) := dd_L_law_8 49 (765, .iaload, 1) rfl
