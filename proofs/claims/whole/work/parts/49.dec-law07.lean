theorem dLa_law_614 : decode cLa_law 614 = .ok (.iconst 2, 1) := by decide +kernel
theorem dLa_law_615 : decode cLa_law 615 = .ok (.iadd, 1) := by decide +kernel
theorem dLa_law_616 : decode cLa_law 616 = .ok (.iaload, 1) := by decide +kernel
theorem dLa_law_617 : decode cLa_law 617 = .ok (.aload_n 0, 1) := by decide +kernel
theorem dLa_law_618 : decode cLa_law 618 = .ok (.iload 4, 2) := by decide +kernel
theorem dLa_law_620 : decode cLa_law 620 = .ok (.iconst 3, 1) := by decide +kernel
theorem dLa_law_621 : decode cLa_law 621 = .ok (.iadd, 1) := by decide +kernel
theorem dLa_law_622 : decode cLa_law 622 = .ok (.iaload, 1) := by decide +kernel
theorem dLa_law_623 : decode cLa_law 623 = .ok (.aload_n 0, 1) := by decide +kernel
theorem dLa_law_624 : decode cLa_law 624 = .ok (.iload 4, 2) := by decide +kernel
theorem dLa_law_626 : decode cLa_law 626 = .ok (.iconst 4, 1) := by decide +kernel
theorem dLa_law_627 : decode cLa_law 627 = .ok (.iadd, 1) := by decide +kernel
theorem dLa_law_628 : decode cLa_law 628 = .ok (.iaload, 1) := by decide +kernel
theorem dLa_law_629 : decode cLa_law 629 = .ok (.aload_n 3, 1) := by decide +kernel
theorem dLa_law_630 : decode cLa_law 630 = .ok (.invokestatic 95, 3) := by decide +kernel
theorem dLa_law_633 : decode cLa_law 633 = .ok (.istore 5, 2) := by decide +kernel
theorem dLa_law_635 : decode cLa_law 635 = .ok (.aload_n 2, 1) := by decide +kernel
theorem dLa_law_636 : decode cLa_law 636 = .ok (.aload_n 0, 1) := by decide +kernel
theorem dLa_law_637 : decode cLa_law 637 = .ok (.iload 4, 2) := by decide +kernel
theorem dLa_law_639 : decode cLa_law 639 = .ok (.iconst 1, 1) := by decide +kernel
theorem dLa_law_640 : decode cLa_law 640 = .ok (.iadd, 1) := by decide +kernel
theorem dLa_law_641 : decode cLa_law 641 = .ok (.iaload, 1) := by decide +kernel
theorem dLa_law_642 : decode cLa_law 642 = .ok (.aload_n 0, 1) := by decide +kernel
theorem dLa_law_643 : decode cLa_law 643 = .ok (.iload 4, 2) := by decide +kernel
theorem dLa_law_645 : decode cLa_law 645 = .ok (.iconst 2, 1) := by decide +kernel
theorem dLa_law_646 : decode cLa_law 646 = .ok (.iadd, 1) := by decide +kernel
theorem dLa_law_647 : decode cLa_law 647 = .ok (.iaload, 1) := by decide +kernel
theorem dLa_law_648 : decode cLa_law 648 = .ok (.aload_n 0, 1) := by decide +kernel
theorem dLa_law_649 : decode cLa_law 649 = .ok (.iload 4, 2) := by decide +kernel
theorem dLa_law_651 : decode cLa_law 651 = .ok (.iconst 3, 1) := by decide +kernel
theorem dLa_law_652 : decode cLa_law 652 = .ok (.iadd, 1) := by decide +kernel
theorem dLa_law_653 : decode cLa_law 653 = .ok (.iaload, 1) := by decide +kernel
theorem dLa_law_654 : decode cLa_law 654 = .ok (.aload_n 0, 1) := by decide +kernel
theorem dLa_law_655 : decode cLa_law 655 = .ok (.iload 4, 2) := by decide +kernel
theorem dLa_law_657 : decode cLa_law 657 = .ok (.iconst 4, 1) := by decide +kernel
theorem dLa_law_658 : decode cLa_law 658 = .ok (.iadd, 1) := by decide +kernel
theorem dLa_law_659 : decode cLa_law 659 = .ok (.iaload, 1) := by decide +kernel
theorem dLa_law_660 : decode cLa_law 660 = .ok (.invokevirtual 98, 3) := by decide +kernel
theorem dLa_law_663 : decode cLa_law 663 = .ok (.istore 6, 2) := by decide +kernel
theorem dLa_law_665 : decode cLa_law 665 = .ok (.aload_n 2, 1) := by decide +kernel
theorem dLa_law_666 : decode cLa_law 666 = .ok (.invokevirtual 68, 3) := by decide +kernel
theorem dLa_law_669 : decode cLa_law 669 = .ok (.iload 5, 2) := by decide +kernel
theorem dLa_law_671 : decode cLa_law 671 = .ok (.if_icmp .eq 5, 3) := by decide +kernel
theorem dLa_law_674 : decode cLa_law 674 = .ok (.iconst 0, 1) := by decide +kernel
theorem dLa_law_675 : decode cLa_law 675 = .ok (.ireturn, 1) := by decide +kernel
theorem dLa_law_676 : decode cLa_law 676 = .ok (.iload 5, 2) := by decide +kernel
theorem dLa_law_678 : decode cLa_law 678 = .ok (.ifCond .ne 15, 3) := by decide +kernel
theorem dLa_law_681 : decode cLa_law 681 = .ok (.aload_n 3, 1) := by decide +kernel
theorem dLa_law_682 : decode cLa_law 682 = .ok (.iconst 0, 1) := by decide +kernel
theorem dLa_law_683 : decode cLa_law 683 = .ok (.laload, 1) := by decide +kernel
theorem dLa_law_684 : decode cLa_law 684 = .ok (.iload 6, 2) := by decide +kernel
theorem dLa_law_686 : decode cLa_law 686 = .ok (.i2l, 1) := by decide +kernel
theorem dLa_law_687 : decode cLa_law 687 = .ok (.lcmp, 1) := by decide +kernel
theorem dLa_law_688 : decode cLa_law 688 = .ok (.ifCond .eq 5, 3) := by decide +kernel
theorem dLa_law_691 : decode cLa_law 691 = .ok (.iconst 0, 1) := by decide +kernel
theorem dLa_law_692 : decode cLa_law 692 = .ok (.ireturn, 1) := by decide +kernel
theorem dLa_law_693 : decode cLa_law 693 = .ok (.goto 287, 3) := by decide +kernel
theorem dLa_law_696 : decode cLa_law 696 = .ok (.aload_n 1, 1) := by decide +kernel
theorem dLa_law_697 : decode cLa_law 697 = .ok (.aload_n 0, 1) := by decide +kernel
theorem dLa_law_698 : decode cLa_law 698 = .ok (.iload 4, 2) := by decide +kernel
