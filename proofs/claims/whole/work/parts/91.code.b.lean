theorem d_Lw_561 {nm : String} : dd (m_Lw nm) 561 .iaload 1 562 := ⟨show decode code 561 = .ok (.iaload, 1) by decide +kernel, rfl⟩
theorem d_Lw_562 {nm : String} : dd (m_Lw nm) 562 (.invokevirtual 67) 3 565 := ⟨show decode code 562 = .ok (.invokevirtual 67, 3) by decide +kernel, rfl⟩
theorem d_Lw_565 {nm : String} : db (m_Lw nm) 565 (.if_icmp .eq) 568 1396 := ⟨831, show decode code 565 = .ok (.if_icmp .eq 831, 3) by decide +kernel, rfl, rfl⟩
theorem d_Lw_568 {nm : String} : dd (m_Lw nm) 568 (.iconst 0) 1 569 := ⟨show decode code 568 = .ok (.iconst 0, 1) by decide +kernel, rfl⟩
theorem d_Lw_569 {nm : String} : decode (mbt (m_Lw nm)) 569 = .ok (.ireturn, 1) := show decode code 569 = .ok (.ireturn, 1) by decide +kernel
theorem d_Lw_570 {nm : String} : dd (m_Lw nm) 570 (.aload_n 1) 1 571 := ⟨show decode code 570 = .ok (.aload_n 1, 1) by decide +kernel, rfl⟩
theorem d_Lw_571 {nm : String} : dd (m_Lw nm) 571 (.aload_n 0) 1 572 := ⟨show decode code 571 = .ok (.aload_n 0, 1) by decide +kernel, rfl⟩
theorem d_Lw_572 {nm : String} : dd (m_Lw nm) 572 (.iload 4) 2 574 := ⟨show decode code 572 = .ok (.iload 4, 2) by decide +kernel, rfl⟩
theorem d_Lw_574 {nm : String} : dd (m_Lw nm) 574 (.iconst 1) 1 575 := ⟨show decode code 574 = .ok (.iconst 1, 1) by decide +kernel, rfl⟩
theorem d_Lw_575 {nm : String} : dd (m_Lw nm) 575 .iadd 1 576 := ⟨show decode code 575 = .ok (.iadd, 1) by decide +kernel, rfl⟩
theorem d_Lw_576 {nm : String} : dd (m_Lw nm) 576 .iaload 1 577 := ⟨show decode code 576 = .ok (.iaload, 1) by decide +kernel, rfl⟩
theorem d_Lw_577 {nm : String} : dd (m_Lw nm) 577 (.aload_n 0) 1 578 := ⟨show decode code 577 = .ok (.aload_n 0, 1) by decide +kernel, rfl⟩
theorem d_Lw_578 {nm : String} : dd (m_Lw nm) 578 (.iload 4) 2 580 := ⟨show decode code 578 = .ok (.iload 4, 2) by decide +kernel, rfl⟩
theorem d_Lw_580 {nm : String} : dd (m_Lw nm) 580 (.iconst 2) 1 581 := ⟨show decode code 580 = .ok (.iconst 2, 1) by decide +kernel, rfl⟩
theorem d_Lw_581 {nm : String} : dd (m_Lw nm) 581 .iadd 1 582 := ⟨show decode code 581 = .ok (.iadd, 1) by decide +kernel, rfl⟩
theorem d_Lw_582 {nm : String} : dd (m_Lw nm) 582 .iaload 1 583 := ⟨show decode code 582 = .ok (.iaload, 1) by decide +kernel, rfl⟩
theorem d_Lw_583 {nm : String} : dd (m_Lw nm) 583 (.aload_n 0) 1 584 := ⟨show decode code 583 = .ok (.aload_n 0, 1) by decide +kernel, rfl⟩
theorem d_Lw_584 {nm : String} : dd (m_Lw nm) 584 (.iload 4) 2 586 := ⟨show decode code 584 = .ok (.iload 4, 2) by decide +kernel, rfl⟩
theorem d_Lw_586 {nm : String} : dd (m_Lw nm) 586 (.iconst 3) 1 587 := ⟨show decode code 586 = .ok (.iconst 3, 1) by decide +kernel, rfl⟩
theorem d_Lw_587 {nm : String} : dd (m_Lw nm) 587 .iadd 1 588 := ⟨show decode code 587 = .ok (.iadd, 1) by decide +kernel, rfl⟩
theorem d_Lw_588 {nm : String} : dd (m_Lw nm) 588 .iaload 1 589 := ⟨show decode code 588 = .ok (.iaload, 1) by decide +kernel, rfl⟩
theorem d_Lw_589 {nm : String} : dd (m_Lw nm) 589 (.invokevirtual 68) 3 592 := ⟨show decode code 589 = .ok (.invokevirtual 68, 3) by decide +kernel, rfl⟩
theorem d_Lw_592 {nm : String} : dd (m_Lw nm) 592 (.aload_n 2) 1 593 := ⟨show decode code 592 = .ok (.aload_n 2, 1) by decide +kernel, rfl⟩
theorem d_Lw_593 {nm : String} : dd (m_Lw nm) 593 (.aload_n 0) 1 594 := ⟨show decode code 593 = .ok (.aload_n 0, 1) by decide +kernel, rfl⟩
theorem d_Lw_594 {nm : String} : dd (m_Lw nm) 594 (.iload 4) 2 596 := ⟨show decode code 594 = .ok (.iload 4, 2) by decide +kernel, rfl⟩
theorem d_Lw_596 {nm : String} : dd (m_Lw nm) 596 (.iconst 1) 1 597 := ⟨show decode code 596 = .ok (.iconst 1, 1) by decide +kernel, rfl⟩
theorem d_Lw_597 {nm : String} : dd (m_Lw nm) 597 .iadd 1 598 := ⟨show decode code 597 = .ok (.iadd, 1) by decide +kernel, rfl⟩
theorem d_Lw_598 {nm : String} : dd (m_Lw nm) 598 .iaload 1 599 := ⟨show decode code 598 = .ok (.iaload, 1) by decide +kernel, rfl⟩
theorem d_Lw_599 {nm : String} : dd (m_Lw nm) 599 (.aload_n 0) 1 600 := ⟨show decode code 599 = .ok (.aload_n 0, 1) by decide +kernel, rfl⟩
theorem d_Lw_600 {nm : String} : dd (m_Lw nm) 600 (.iload 4) 2 602 := ⟨show decode code 600 = .ok (.iload 4, 2) by decide +kernel, rfl⟩
theorem d_Lw_602 {nm : String} : dd (m_Lw nm) 602 (.iconst 2) 1 603 := ⟨show decode code 602 = .ok (.iconst 2, 1) by decide +kernel, rfl⟩
theorem d_Lw_603 {nm : String} : dd (m_Lw nm) 603 .iadd 1 604 := ⟨show decode code 603 = .ok (.iadd, 1) by decide +kernel, rfl⟩
theorem d_Lw_604 {nm : String} : dd (m_Lw nm) 604 .iaload 1 605 := ⟨show decode code 604 = .ok (.iaload, 1) by decide +kernel, rfl⟩
theorem d_Lw_605 {nm : String} : dd (m_Lw nm) 605 (.aload_n 0) 1 606 := ⟨show decode code 605 = .ok (.aload_n 0, 1) by decide +kernel, rfl⟩
theorem d_Lw_606 {nm : String} : dd (m_Lw nm) 606 (.iload 4) 2 608 := ⟨show decode code 606 = .ok (.iload 4, 2) by decide +kernel, rfl⟩
theorem d_Lw_608 {nm : String} : dd (m_Lw nm) 608 (.iconst 3) 1 609 := ⟨show decode code 608 = .ok (.iconst 3, 1) by decide +kernel, rfl⟩
theorem d_Lw_609 {nm : String} : dd (m_Lw nm) 609 .iadd 1 610 := ⟨show decode code 609 = .ok (.iadd, 1) by decide +kernel, rfl⟩
theorem d_Lw_610 {nm : String} : dd (m_Lw nm) 610 .iaload 1 611 := ⟨show decode code 610 = .ok (.iaload, 1) by decide +kernel, rfl⟩
theorem d_Lw_611 {nm : String} : dd (m_Lw nm) 611 (.invokevirtual 71) 3 614 := ⟨show decode code 611 = .ok (.invokevirtual 71, 3) by decide +kernel, rfl⟩
theorem d_Lw_614 {nm : String} : db (m_Lw nm) 614 (.if_icmp .eq) 617 1396 := ⟨782, show decode code 614 = .ok (.if_icmp .eq 782, 3) by decide +kernel, rfl, rfl⟩
theorem d_Lw_617 {nm : String} : dd (m_Lw nm) 617 (.iconst 0) 1 618 := ⟨show decode code 617 = .ok (.iconst 0, 1) by decide +kernel, rfl⟩
theorem d_Lw_618 {nm : String} : decode (mbt (m_Lw nm)) 618 = .ok (.ireturn, 1) := show decode code 618 = .ok (.ireturn, 1) by decide +kernel
theorem d_Lw_619 {nm : String} : dd (m_Lw nm) 619 (.aload_n 1) 1 620 := ⟨show decode code 619 = .ok (.aload_n 1, 1) by decide +kernel, rfl⟩
theorem d_Lw_620 {nm : String} : dd (m_Lw nm) 620 (.aload_n 0) 1 621 := ⟨show decode code 620 = .ok (.aload_n 0, 1) by decide +kernel, rfl⟩
theorem d_Lw_621 {nm : String} : dd (m_Lw nm) 621 (.iload 4) 2 623 := ⟨show decode code 621 = .ok (.iload 4, 2) by decide +kernel, rfl⟩
theorem d_Lw_623 {nm : String} : dd (m_Lw nm) 623 (.iconst 1) 1 624 := ⟨show decode code 623 = .ok (.iconst 1, 1) by decide +kernel, rfl⟩
theorem d_Lw_624 {nm : String} : dd (m_Lw nm) 624 .iadd 1 625 := ⟨show decode code 624 = .ok (.iadd, 1) by decide +kernel, rfl⟩
theorem d_Lw_625 {nm : String} : dd (m_Lw nm) 625 .iaload 1 626 := ⟨show decode code 625 = .ok (.iaload, 1) by decide +kernel, rfl⟩
theorem d_Lw_626 {nm : String} : dd (m_Lw nm) 626 (.aload_n 0) 1 627 := ⟨show decode code 626 = .ok (.aload_n 0, 1) by decide +kernel, rfl⟩
theorem d_Lw_627 {nm : String} : dd (m_Lw nm) 627 (.iload 4) 2 629 := ⟨show decode code 627 = .ok (.iload 4, 2) by decide +kernel, rfl⟩
theorem d_Lw_629 {nm : String} : dd (m_Lw nm) 629 (.iconst 2) 1 630 := ⟨show decode code 629 = .ok (.iconst 2, 1) by decide +kernel, rfl⟩
theorem d_Lw_630 {nm : String} : dd (m_Lw nm) 630 .iadd 1 631 := ⟨show decode code 630 = .ok (.iadd, 1) by decide +kernel, rfl⟩
theorem d_Lw_631 {nm : String} : dd (m_Lw nm) 631 .iaload 1 632 := ⟨show decode code 631 = .ok (.iaload, 1) by decide +kernel, rfl⟩
theorem d_Lw_632 {nm : String} : dd (m_Lw nm) 632 (.aload_n 0) 1 633 := ⟨show decode code 632 = .ok (.aload_n 0, 1) by decide +kernel, rfl⟩
theorem d_Lw_633 {nm : String} : dd (m_Lw nm) 633 (.iload 4) 2 635 := ⟨show decode code 633 = .ok (.iload 4, 2) by decide +kernel, rfl⟩
theorem d_Lw_635 {nm : String} : dd (m_Lw nm) 635 (.iconst 3) 1 636 := ⟨show decode code 635 = .ok (.iconst 3, 1) by decide +kernel, rfl⟩
theorem d_Lw_636 {nm : String} : dd (m_Lw nm) 636 .iadd 1 637 := ⟨show decode code 636 = .ok (.iadd, 1) by decide +kernel, rfl⟩
theorem d_Lw_637 {nm : String} : dd (m_Lw nm) 637 .iaload 1 638 := ⟨show decode code 637 = .ok (.iaload, 1) by decide +kernel, rfl⟩
theorem d_Lw_638 {nm : String} : dd (m_Lw nm) 638 (.aload_n 3) 1 639 := ⟨show decode code 638 = .ok (.aload_n 3, 1) by decide +kernel, rfl⟩
theorem d_Lw_639 {nm : String} : dd (m_Lw nm) 639 (.invokestatic 72) 3 642 := ⟨show decode code 639 = .ok (.invokestatic 72, 3) by decide +kernel, rfl⟩
theorem d_Lw_642 {nm : String} : dd (m_Lw nm) 642 (.istore 5) 2 644 := ⟨show decode code 642 = .ok (.istore 5, 2) by decide +kernel, rfl⟩
theorem d_Lw_644 {nm : String} : dd (m_Lw nm) 644 (.aload_n 2) 1 645 := ⟨show decode code 644 = .ok (.aload_n 2, 1) by decide +kernel, rfl⟩
theorem d_Lw_645 {nm : String} : dd (m_Lw nm) 645 (.aload_n 0) 1 646 := ⟨show decode code 645 = .ok (.aload_n 0, 1) by decide +kernel, rfl⟩
theorem d_Lw_646 {nm : String} : dd (m_Lw nm) 646 (.iload 4) 2 648 := ⟨show decode code 646 = .ok (.iload 4, 2) by decide +kernel, rfl⟩
theorem d_Lw_648 {nm : String} : dd (m_Lw nm) 648 (.iconst 1) 1 649 := ⟨show decode code 648 = .ok (.iconst 1, 1) by decide +kernel, rfl⟩
theorem d_Lw_649 {nm : String} : dd (m_Lw nm) 649 .iadd 1 650 := ⟨show decode code 649 = .ok (.iadd, 1) by decide +kernel, rfl⟩
theorem d_Lw_650 {nm : String} : dd (m_Lw nm) 650 .iaload 1 651 := ⟨show decode code 650 = .ok (.iaload, 1) by decide +kernel, rfl⟩
theorem d_Lw_651 {nm : String} : dd (m_Lw nm) 651 (.aload_n 0) 1 652 := ⟨show decode code 651 = .ok (.aload_n 0, 1) by decide +kernel, rfl⟩
theorem d_Lw_652 {nm : String} : dd (m_Lw nm) 652 (.iload 4) 2 654 := ⟨show decode code 652 = .ok (.iload 4, 2) by decide +kernel, rfl⟩
theorem d_Lw_654 {nm : String} : dd (m_Lw nm) 654 (.iconst 2) 1 655 := ⟨show decode code 654 = .ok (.iconst 2, 1) by decide +kernel, rfl⟩
theorem d_Lw_655 {nm : String} : dd (m_Lw nm) 655 .iadd 1 656 := ⟨show decode code 655 = .ok (.iadd, 1) by decide +kernel, rfl⟩
theorem d_Lw_656 {nm : String} : dd (m_Lw nm) 656 .iaload 1 657 := ⟨show decode code 656 = .ok (.iaload, 1) by decide +kernel, rfl⟩
theorem d_Lw_657 {nm : String} : dd (m_Lw nm) 657 (.aload_n 0) 1 658 := ⟨show decode code 657 = .ok (.aload_n 0, 1) by decide +kernel, rfl⟩
theorem d_Lw_658 {nm : String} : dd (m_Lw nm) 658 (.iload 4) 2 660 := ⟨show decode code 658 = .ok (.iload 4, 2) by decide +kernel, rfl⟩
theorem d_Lw_660 {nm : String} : dd (m_Lw nm) 660 (.iconst 3) 1 661 := ⟨show decode code 660 = .ok (.iconst 3, 1) by decide +kernel, rfl⟩
theorem d_Lw_661 {nm : String} : dd (m_Lw nm) 661 .iadd 1 662 := ⟨show decode code 661 = .ok (.iadd, 1) by decide +kernel, rfl⟩
theorem d_Lw_662 {nm : String} : dd (m_Lw nm) 662 .iaload 1 663 := ⟨show decode code 662 = .ok (.iaload, 1) by decide +kernel, rfl⟩
theorem d_Lw_663 {nm : String} : dd (m_Lw nm) 663 (.invokevirtual 77) 3 666 := ⟨show decode code 663 = .ok (.invokevirtual 77, 3) by decide +kernel, rfl⟩
theorem d_Lw_666 {nm : String} : dd (m_Lw nm) 666 (.istore 6) 2 668 := ⟨show decode code 666 = .ok (.istore 6, 2) by decide +kernel, rfl⟩
theorem d_Lw_668 {nm : String} : dd (m_Lw nm) 668 (.aload_n 2) 1 669 := ⟨show decode code 668 = .ok (.aload_n 2, 1) by decide +kernel, rfl⟩
theorem d_Lw_669 {nm : String} : dd (m_Lw nm) 669 (.invokevirtual 78) 3 672 := ⟨show decode code 669 = .ok (.invokevirtual 78, 3) by decide +kernel, rfl⟩
theorem d_Lw_672 {nm : String} : dd (m_Lw nm) 672 (.iload 5) 2 674 := ⟨show decode code 672 = .ok (.iload 5, 2) by decide +kernel, rfl⟩
theorem d_Lw_674 {nm : String} : db (m_Lw nm) 674 (.if_icmp .eq) 677 679 := ⟨5, show decode code 674 = .ok (.if_icmp .eq 5, 3) by decide +kernel, rfl, rfl⟩
theorem d_Lw_677 {nm : String} : dd (m_Lw nm) 677 (.iconst 0) 1 678 := ⟨show decode code 677 = .ok (.iconst 0, 1) by decide +kernel, rfl⟩
theorem d_Lw_678 {nm : String} : decode (mbt (m_Lw nm)) 678 = .ok (.ireturn, 1) := show decode code 678 = .ok (.ireturn, 1) by decide +kernel
theorem d_Lw_679 {nm : String} : dd (m_Lw nm) 679 (.iload 5) 2 681 := ⟨show decode code 679 = .ok (.iload 5, 2) by decide +kernel, rfl⟩
theorem d_Lw_681 {nm : String} : db (m_Lw nm) 681 (.ifCond .ne) 684 696 := ⟨15, show decode code 681 = .ok (.ifCond .ne 15, 3) by decide +kernel, rfl, rfl⟩
theorem d_Lw_684 {nm : String} : dd (m_Lw nm) 684 (.aload_n 3) 1 685 := ⟨show decode code 684 = .ok (.aload_n 3, 1) by decide +kernel, rfl⟩
theorem d_Lw_685 {nm : String} : dd (m_Lw nm) 685 (.iconst 0) 1 686 := ⟨show decode code 685 = .ok (.iconst 0, 1) by decide +kernel, rfl⟩
theorem d_Lw_686 {nm : String} : dd (m_Lw nm) 686 .laload 1 687 := ⟨show decode code 686 = .ok (.laload, 1) by decide +kernel, rfl⟩
theorem d_Lw_687 {nm : String} : dd (m_Lw nm) 687 (.iload 6) 2 689 := ⟨show decode code 687 = .ok (.iload 6, 2) by decide +kernel, rfl⟩
theorem d_Lw_689 {nm : String} : dd (m_Lw nm) 689 .i2l 1 690 := ⟨show decode code 689 = .ok (.i2l, 1) by decide +kernel, rfl⟩
theorem d_Lw_690 {nm : String} : dd (m_Lw nm) 690 .lcmp 1 691 := ⟨show decode code 690 = .ok (.lcmp, 1) by decide +kernel, rfl⟩
theorem d_Lw_691 {nm : String} : db (m_Lw nm) 691 (.ifCond .eq) 694 696 := ⟨5, show decode code 691 = .ok (.ifCond .eq 5, 3) by decide +kernel, rfl, rfl⟩
theorem d_Lw_694 {nm : String} : dd (m_Lw nm) 694 (.iconst 0) 1 695 := ⟨show decode code 694 = .ok (.iconst 0, 1) by decide +kernel, rfl⟩
theorem d_Lw_695 {nm : String} : decode (mbt (m_Lw nm)) 695 = .ok (.ireturn, 1) := show decode code 695 = .ok (.ireturn, 1) by decide +kernel
theorem d_Lw_696 {nm : String} : db (m_Lw nm) 696 .goto 699 1396 := ⟨700, show decode code 696 = .ok (.goto 700, 3) by decide +kernel, rfl, rfl⟩
theorem d_Lw_699 {nm : String} : dd (m_Lw nm) 699 (.aload_n 1) 1 700 := ⟨show decode code 699 = .ok (.aload_n 1, 1) by decide +kernel, rfl⟩
theorem d_Lw_700 {nm : String} : dd (m_Lw nm) 700 (.aload_n 0) 1 701 := ⟨show decode code 700 = .ok (.aload_n 0, 1) by decide +kernel, rfl⟩
theorem d_Lw_701 {nm : String} : dd (m_Lw nm) 701 (.iload 4) 2 703 := ⟨show decode code 701 = .ok (.iload 4, 2) by decide +kernel, rfl⟩
theorem d_Lw_703 {nm : String} : dd (m_Lw nm) 703 (.iconst 1) 1 704 := ⟨show decode code 703 = .ok (.iconst 1, 1) by decide +kernel, rfl⟩
theorem d_Lw_704 {nm : String} : dd (m_Lw nm) 704 .iadd 1 705 := ⟨show decode code 704 = .ok (.iadd, 1) by decide +kernel, rfl⟩
theorem d_Lw_705 {nm : String} : dd (m_Lw nm) 705 .iaload 1 706 := ⟨show decode code 705 = .ok (.iaload, 1) by decide +kernel, rfl⟩
theorem d_Lw_706 {nm : String} : dd (m_Lw nm) 706 (.aload_n 0) 1 707 := ⟨show decode code 706 = .ok (.aload_n 0, 1) by decide +kernel, rfl⟩
theorem d_Lw_707 {nm : String} : dd (m_Lw nm) 707 (.iload 4) 2 709 := ⟨show decode code 707 = .ok (.iload 4, 2) by decide +kernel, rfl⟩
theorem d_Lw_709 {nm : String} : dd (m_Lw nm) 709 (.iconst 2) 1 710 := ⟨show decode code 709 = .ok (.iconst 2, 1) by decide +kernel, rfl⟩
theorem d_Lw_710 {nm : String} : dd (m_Lw nm) 710 .iadd 1 711 := ⟨show decode code 710 = .ok (.iadd, 1) by decide +kernel, rfl⟩
theorem d_Lw_711 {nm : String} : dd (m_Lw nm) 711 .iaload 1 712 := ⟨show decode code 711 = .ok (.iaload, 1) by decide +kernel, rfl⟩
theorem d_Lw_712 {nm : String} : dd (m_Lw nm) 712 (.aload_n 0) 1 713 := ⟨show decode code 712 = .ok (.aload_n 0, 1) by decide +kernel, rfl⟩
theorem d_Lw_713 {nm : String} : dd (m_Lw nm) 713 (.iload 4) 2 715 := ⟨show decode code 713 = .ok (.iload 4, 2) by decide +kernel, rfl⟩
theorem d_Lw_715 {nm : String} : dd (m_Lw nm) 715 (.iconst 3) 1 716 := ⟨show decode code 715 = .ok (.iconst 3, 1) by decide +kernel, rfl⟩
theorem d_Lw_716 {nm : String} : dd (m_Lw nm) 716 .iadd 1 717 := ⟨show decode code 716 = .ok (.iadd, 1) by decide +kernel, rfl⟩
theorem d_Lw_717 {nm : String} : dd (m_Lw nm) 717 .iaload 1 718 := ⟨show decode code 717 = .ok (.iaload, 1) by decide +kernel, rfl⟩
theorem d_Lw_718 {nm : String} : dd (m_Lw nm) 718 (.invokevirtual 81) 3 721 := ⟨show decode code 718 = .ok (.invokevirtual 81, 3) by decide +kernel, rfl⟩
theorem d_Lw_721 {nm : String} : dd (m_Lw nm) 721 (.aload_n 2) 1 722 := ⟨show decode code 721 = .ok (.aload_n 2, 1) by decide +kernel, rfl⟩
theorem d_Lw_722 {nm : String} : dd (m_Lw nm) 722 (.aload_n 0) 1 723 := ⟨show decode code 722 = .ok (.aload_n 0, 1) by decide +kernel, rfl⟩
theorem d_Lw_723 {nm : String} : dd (m_Lw nm) 723 (.iload 4) 2 725 := ⟨show decode code 723 = .ok (.iload 4, 2) by decide +kernel, rfl⟩
theorem d_Lw_725 {nm : String} : dd (m_Lw nm) 725 (.iconst 1) 1 726 := ⟨show decode code 725 = .ok (.iconst 1, 1) by decide +kernel, rfl⟩
theorem d_Lw_726 {nm : String} : dd (m_Lw nm) 726 .iadd 1 727 := ⟨show decode code 726 = .ok (.iadd, 1) by decide +kernel, rfl⟩
theorem d_Lw_727 {nm : String} : dd (m_Lw nm) 727 .iaload 1 728 := ⟨show decode code 727 = .ok (.iaload, 1) by decide +kernel, rfl⟩
theorem d_Lw_728 {nm : String} : dd (m_Lw nm) 728 (.aload_n 0) 1 729 := ⟨show decode code 728 = .ok (.aload_n 0, 1) by decide +kernel, rfl⟩
theorem d_Lw_729 {nm : String} : dd (m_Lw nm) 729 (.iload 4) 2 731 := ⟨show decode code 729 = .ok (.iload 4, 2) by decide +kernel, rfl⟩
theorem d_Lw_731 {nm : String} : dd (m_Lw nm) 731 (.iconst 2) 1 732 := ⟨show decode code 731 = .ok (.iconst 2, 1) by decide +kernel, rfl⟩
theorem d_Lw_732 {nm : String} : dd (m_Lw nm) 732 .iadd 1 733 := ⟨show decode code 732 = .ok (.iadd, 1) by decide +kernel, rfl⟩
theorem d_Lw_733 {nm : String} : dd (m_Lw nm) 733 .iaload 1 734 := ⟨show decode code 733 = .ok (.iaload, 1) by decide +kernel, rfl⟩
theorem d_Lw_734 {nm : String} : dd (m_Lw nm) 734 (.aload_n 0) 1 735 := ⟨show decode code 734 = .ok (.aload_n 0, 1) by decide +kernel, rfl⟩
theorem d_Lw_735 {nm : String} : dd (m_Lw nm) 735 (.iload 4) 2 737 := ⟨show decode code 735 = .ok (.iload 4, 2) by decide +kernel, rfl⟩
theorem d_Lw_737 {nm : String} : dd (m_Lw nm) 737 (.iconst 3) 1 738 := ⟨show decode code 737 = .ok (.iconst 3, 1) by decide +kernel, rfl⟩
theorem d_Lw_738 {nm : String} : dd (m_Lw nm) 738 .iadd 1 739 := ⟨show decode code 738 = .ok (.iadd, 1) by decide +kernel, rfl⟩
theorem d_Lw_739 {nm : String} : dd (m_Lw nm) 739 .iaload 1 740 := ⟨show decode code 739 = .ok (.iaload, 1) by decide +kernel, rfl⟩
theorem d_Lw_740 {nm : String} : dd (m_Lw nm) 740 (.invokevirtual 84) 3 743 := ⟨show decode code 740 = .ok (.invokevirtual 84, 3) by decide +kernel, rfl⟩
theorem d_Lw_743 {nm : String} : db (m_Lw nm) 743 (.if_icmp .eq) 746 1396 := ⟨653, show decode code 743 = .ok (.if_icmp .eq 653, 3) by decide +kernel, rfl, rfl⟩
theorem d_Lw_746 {nm : String} : dd (m_Lw nm) 746 (.iconst 0) 1 747 := ⟨show decode code 746 = .ok (.iconst 0, 1) by decide +kernel, rfl⟩
theorem d_Lw_747 {nm : String} : decode (mbt (m_Lw nm)) 747 = .ok (.ireturn, 1) := show decode code 747 = .ok (.ireturn, 1) by decide +kernel
theorem d_Lw_748 {nm : String} : dd (m_Lw nm) 748 (.aload_n 1) 1 749 := ⟨show decode code 748 = .ok (.aload_n 1, 1) by decide +kernel, rfl⟩
theorem d_Lw_749 {nm : String} : dd (m_Lw nm) 749 (.aload_n 0) 1 750 := ⟨show decode code 749 = .ok (.aload_n 0, 1) by decide +kernel, rfl⟩
theorem d_Lw_750 {nm : String} : dd (m_Lw nm) 750 (.iload 4) 2 752 := ⟨show decode code 750 = .ok (.iload 4, 2) by decide +kernel, rfl⟩
theorem d_Lw_752 {nm : String} : dd (m_Lw nm) 752 (.iconst 1) 1 753 := ⟨show decode code 752 = .ok (.iconst 1, 1) by decide +kernel, rfl⟩
theorem d_Lw_753 {nm : String} : dd (m_Lw nm) 753 .iadd 1 754 := ⟨show decode code 753 = .ok (.iadd, 1) by decide +kernel, rfl⟩
theorem d_Lw_754 {nm : String} : dd (m_Lw nm) 754 .iaload 1 755 := ⟨show decode code 754 = .ok (.iaload, 1) by decide +kernel, rfl⟩
theorem d_Lw_755 {nm : String} : dd (m_Lw nm) 755 (.aload_n 0) 1 756 := ⟨show decode code 755 = .ok (.aload_n 0, 1) by decide +kernel, rfl⟩
theorem d_Lw_756 {nm : String} : dd (m_Lw nm) 756 (.iload 4) 2 758 := ⟨show decode code 756 = .ok (.iload 4, 2) by decide +kernel, rfl⟩
theorem d_Lw_758 {nm : String} : dd (m_Lw nm) 758 (.iconst 2) 1 759 := ⟨show decode code 758 = .ok (.iconst 2, 1) by decide +kernel, rfl⟩
theorem d_Lw_759 {nm : String} : dd (m_Lw nm) 759 .iadd 1 760 := ⟨show decode code 759 = .ok (.iadd, 1) by decide +kernel, rfl⟩
theorem d_Lw_760 {nm : String} : dd (m_Lw nm) 760 .iaload 1 761 := ⟨show decode code 760 = .ok (.iaload, 1) by decide +kernel, rfl⟩
theorem d_Lw_761 {nm : String} : dd (m_Lw nm) 761 (.aload_n 0) 1 762 := ⟨show decode code 761 = .ok (.aload_n 0, 1) by decide +kernel, rfl⟩
theorem d_Lw_762 {nm : String} : dd (m_Lw nm) 762 (.iload 4) 2 764 := ⟨show decode code 762 = .ok (.iload 4, 2) by decide +kernel, rfl⟩
theorem d_Lw_764 {nm : String} : dd (m_Lw nm) 764 (.iconst 3) 1 765 := ⟨show decode code 764 = .ok (.iconst 3, 1) by decide +kernel, rfl⟩
theorem d_Lw_765 {nm : String} : dd (m_Lw nm) 765 .iadd 1 766 := ⟨show decode code 765 = .ok (.iadd, 1) by decide +kernel, rfl⟩
theorem d_Lw_766 {nm : String} : dd (m_Lw nm) 766 .iaload 1 767 := ⟨show decode code 766 = .ok (.iaload, 1) by decide +kernel, rfl⟩
theorem d_Lw_767 {nm : String} : dd (m_Lw nm) 767 (.invokevirtual 85) 3 770 := ⟨show decode code 767 = .ok (.invokevirtual 85, 3) by decide +kernel, rfl⟩
theorem d_Lw_770 {nm : String} : dd (m_Lw nm) 770 (.aload_n 2) 1 771 := ⟨show decode code 770 = .ok (.aload_n 2, 1) by decide +kernel, rfl⟩
theorem d_Lw_771 {nm : String} : dd (m_Lw nm) 771 (.aload_n 0) 1 772 := ⟨show decode code 771 = .ok (.aload_n 0, 1) by decide +kernel, rfl⟩
theorem d_Lw_772 {nm : String} : dd (m_Lw nm) 772 (.iload 4) 2 774 := ⟨show decode code 772 = .ok (.iload 4, 2) by decide +kernel, rfl⟩
theorem d_Lw_774 {nm : String} : dd (m_Lw nm) 774 (.iconst 1) 1 775 := ⟨show decode code 774 = .ok (.iconst 1, 1) by decide +kernel, rfl⟩
theorem d_Lw_775 {nm : String} : dd (m_Lw nm) 775 .iadd 1 776 := ⟨show decode code 775 = .ok (.iadd, 1) by decide +kernel, rfl⟩
theorem d_Lw_776 {nm : String} : dd (m_Lw nm) 776 .iaload 1 777 := ⟨show decode code 776 = .ok (.iaload, 1) by decide +kernel, rfl⟩
theorem d_Lw_777 {nm : String} : dd (m_Lw nm) 777 (.aload_n 0) 1 778 := ⟨show decode code 777 = .ok (.aload_n 0, 1) by decide +kernel, rfl⟩
theorem d_Lw_778 {nm : String} : dd (m_Lw nm) 778 (.iload 4) 2 780 := ⟨show decode code 778 = .ok (.iload 4, 2) by decide +kernel, rfl⟩
theorem d_Lw_780 {nm : String} : dd (m_Lw nm) 780 (.iconst 2) 1 781 := ⟨show decode code 780 = .ok (.iconst 2, 1) by decide +kernel, rfl⟩
theorem d_Lw_781 {nm : String} : dd (m_Lw nm) 781 .iadd 1 782 := ⟨show decode code 781 = .ok (.iadd, 1) by decide +kernel, rfl⟩
theorem d_Lw_782 {nm : String} : dd (m_Lw nm) 782 .iaload 1 783 := ⟨show decode code 782 = .ok (.iaload, 1) by decide +kernel, rfl⟩
theorem d_Lw_783 {nm : String} : dd (m_Lw nm) 783 (.aload_n 0) 1 784 := ⟨show decode code 783 = .ok (.aload_n 0, 1) by decide +kernel, rfl⟩
theorem d_Lw_784 {nm : String} : dd (m_Lw nm) 784 (.iload 4) 2 786 := ⟨show decode code 784 = .ok (.iload 4, 2) by decide +kernel, rfl⟩
theorem d_Lw_786 {nm : String} : dd (m_Lw nm) 786 (.iconst 3) 1 787 := ⟨show decode code 786 = .ok (.iconst 3, 1) by decide +kernel, rfl⟩
theorem d_Lw_787 {nm : String} : dd (m_Lw nm) 787 .iadd 1 788 := ⟨show decode code 787 = .ok (.iadd, 1) by decide +kernel, rfl⟩
theorem d_Lw_788 {nm : String} : dd (m_Lw nm) 788 .iaload 1 789 := ⟨show decode code 788 = .ok (.iaload, 1) by decide +kernel, rfl⟩
theorem d_Lw_789 {nm : String} : dd (m_Lw nm) 789 (.invokevirtual 88) 3 792 := ⟨show decode code 789 = .ok (.invokevirtual 88, 3) by decide +kernel, rfl⟩
theorem d_Lw_792 {nm : String} : db (m_Lw nm) 792 (.if_icmp .eq) 795 1396 := ⟨604, show decode code 792 = .ok (.if_icmp .eq 604, 3) by decide +kernel, rfl, rfl⟩
theorem d_Lw_795 {nm : String} : dd (m_Lw nm) 795 (.iconst 0) 1 796 := ⟨show decode code 795 = .ok (.iconst 0, 1) by decide +kernel, rfl⟩
theorem d_Lw_796 {nm : String} : decode (mbt (m_Lw nm)) 796 = .ok (.ireturn, 1) := show decode code 796 = .ok (.ireturn, 1) by decide +kernel
theorem d_Lw_797 {nm : String} : dd (m_Lw nm) 797 (.aload_n 1) 1 798 := ⟨show decode code 797 = .ok (.aload_n 1, 1) by decide +kernel, rfl⟩
theorem d_Lw_798 {nm : String} : dd (m_Lw nm) 798 (.aload_n 0) 1 799 := ⟨show decode code 798 = .ok (.aload_n 0, 1) by decide +kernel, rfl⟩
theorem d_Lw_799 {nm : String} : dd (m_Lw nm) 799 (.iload 4) 2 801 := ⟨show decode code 799 = .ok (.iload 4, 2) by decide +kernel, rfl⟩
theorem d_Lw_801 {nm : String} : dd (m_Lw nm) 801 (.iconst 1) 1 802 := ⟨show decode code 801 = .ok (.iconst 1, 1) by decide +kernel, rfl⟩
theorem d_Lw_802 {nm : String} : dd (m_Lw nm) 802 .iadd 1 803 := ⟨show decode code 802 = .ok (.iadd, 1) by decide +kernel, rfl⟩
theorem d_Lw_803 {nm : String} : dd (m_Lw nm) 803 .iaload 1 804 := ⟨show decode code 803 = .ok (.iaload, 1) by decide +kernel, rfl⟩
theorem d_Lw_804 {nm : String} : dd (m_Lw nm) 804 (.aload_n 0) 1 805 := ⟨show decode code 804 = .ok (.aload_n 0, 1) by decide +kernel, rfl⟩
theorem d_Lw_805 {nm : String} : dd (m_Lw nm) 805 (.iload 4) 2 807 := ⟨show decode code 805 = .ok (.iload 4, 2) by decide +kernel, rfl⟩
theorem d_Lw_807 {nm : String} : dd (m_Lw nm) 807 (.iconst 2) 1 808 := ⟨show decode code 807 = .ok (.iconst 2, 1) by decide +kernel, rfl⟩
theorem d_Lw_808 {nm : String} : dd (m_Lw nm) 808 .iadd 1 809 := ⟨show decode code 808 = .ok (.iadd, 1) by decide +kernel, rfl⟩
theorem d_Lw_809 {nm : String} : dd (m_Lw nm) 809 .iaload 1 810 := ⟨show decode code 809 = .ok (.iaload, 1) by decide +kernel, rfl⟩
theorem d_Lw_810 {nm : String} : dd (m_Lw nm) 810 (.aload_n 0) 1 811 := ⟨show decode code 810 = .ok (.aload_n 0, 1) by decide +kernel, rfl⟩
theorem d_Lw_811 {nm : String} : dd (m_Lw nm) 811 (.iload 4) 2 813 := ⟨show decode code 811 = .ok (.iload 4, 2) by decide +kernel, rfl⟩
theorem d_Lw_813 {nm : String} : dd (m_Lw nm) 813 (.iconst 3) 1 814 := ⟨show decode code 813 = .ok (.iconst 3, 1) by decide +kernel, rfl⟩
theorem d_Lw_814 {nm : String} : dd (m_Lw nm) 814 .iadd 1 815 := ⟨show decode code 814 = .ok (.iadd, 1) by decide +kernel, rfl⟩
theorem d_Lw_815 {nm : String} : dd (m_Lw nm) 815 .iaload 1 816 := ⟨show decode code 815 = .ok (.iaload, 1) by decide +kernel, rfl⟩
theorem d_Lw_816 {nm : String} : dd (m_Lw nm) 816 (.invokevirtual 89) 3 819 := ⟨show decode code 816 = .ok (.invokevirtual 89, 3) by decide +kernel, rfl⟩
theorem d_Lw_819 {nm : String} : dd (m_Lw nm) 819 (.aload_n 2) 1 820 := ⟨show decode code 819 = .ok (.aload_n 2, 1) by decide +kernel, rfl⟩
theorem d_Lw_820 {nm : String} : dd (m_Lw nm) 820 (.aload_n 0) 1 821 := ⟨show decode code 820 = .ok (.aload_n 0, 1) by decide +kernel, rfl⟩
theorem d_Lw_821 {nm : String} : dd (m_Lw nm) 821 (.iload 4) 2 823 := ⟨show decode code 821 = .ok (.iload 4, 2) by decide +kernel, rfl⟩
theorem d_Lw_823 {nm : String} : dd (m_Lw nm) 823 (.iconst 1) 1 824 := ⟨show decode code 823 = .ok (.iconst 1, 1) by decide +kernel, rfl⟩
theorem d_Lw_824 {nm : String} : dd (m_Lw nm) 824 .iadd 1 825 := ⟨show decode code 824 = .ok (.iadd, 1) by decide +kernel, rfl⟩
theorem d_Lw_825 {nm : String} : dd (m_Lw nm) 825 .iaload 1 826 := ⟨show decode code 825 = .ok (.iaload, 1) by decide +kernel, rfl⟩
theorem d_Lw_826 {nm : String} : dd (m_Lw nm) 826 (.aload_n 0) 1 827 := ⟨show decode code 826 = .ok (.aload_n 0, 1) by decide +kernel, rfl⟩
theorem d_Lw_827 {nm : String} : dd (m_Lw nm) 827 (.iload 4) 2 829 := ⟨show decode code 827 = .ok (.iload 4, 2) by decide +kernel, rfl⟩
theorem d_Lw_829 {nm : String} : dd (m_Lw nm) 829 (.iconst 2) 1 830 := ⟨show decode code 829 = .ok (.iconst 2, 1) by decide +kernel, rfl⟩
theorem d_Lw_830 {nm : String} : dd (m_Lw nm) 830 .iadd 1 831 := ⟨show decode code 830 = .ok (.iadd, 1) by decide +kernel, rfl⟩
theorem d_Lw_831 {nm : String} : dd (m_Lw nm) 831 .iaload 1 832 := ⟨show decode code 831 = .ok (.iaload, 1) by decide +kernel, rfl⟩
theorem d_Lw_832 {nm : String} : dd (m_Lw nm) 832 (.aload_n 0) 1 833 := ⟨show decode code 832 = .ok (.aload_n 0, 1) by decide +kernel, rfl⟩
theorem d_Lw_833 {nm : String} : dd (m_Lw nm) 833 (.iload 4) 2 835 := ⟨show decode code 833 = .ok (.iload 4, 2) by decide +kernel, rfl⟩
theorem d_Lw_835 {nm : String} : dd (m_Lw nm) 835 (.iconst 3) 1 836 := ⟨show decode code 835 = .ok (.iconst 3, 1) by decide +kernel, rfl⟩
theorem d_Lw_836 {nm : String} : dd (m_Lw nm) 836 .iadd 1 837 := ⟨show decode code 836 = .ok (.iadd, 1) by decide +kernel, rfl⟩
theorem d_Lw_837 {nm : String} : dd (m_Lw nm) 837 .iaload 1 838 := ⟨show decode code 837 = .ok (.iaload, 1) by decide +kernel, rfl⟩
theorem d_Lw_838 {nm : String} : dd (m_Lw nm) 838 (.invokevirtual 92) 3 841 := ⟨show decode code 838 = .ok (.invokevirtual 92, 3) by decide +kernel, rfl⟩
theorem d_Lw_841 {nm : String} : db (m_Lw nm) 841 (.if_icmp .eq) 844 1396 := ⟨555, show decode code 841 = .ok (.if_icmp .eq 555, 3) by decide +kernel, rfl, rfl⟩
theorem d_Lw_844 {nm : String} : dd (m_Lw nm) 844 (.iconst 0) 1 845 := ⟨show decode code 844 = .ok (.iconst 0, 1) by decide +kernel, rfl⟩
theorem d_Lw_845 {nm : String} : decode (mbt (m_Lw nm)) 845 = .ok (.ireturn, 1) := show decode code 845 = .ok (.ireturn, 1) by decide +kernel
theorem d_Lw_846 {nm : String} : dd (m_Lw nm) 846 (.aload_n 1) 1 847 := ⟨show decode code 846 = .ok (.aload_n 1, 1) by decide +kernel, rfl⟩
theorem d_Lw_847 {nm : String} : dd (m_Lw nm) 847 (.aload_n 0) 1 848 := ⟨show decode code 847 = .ok (.aload_n 0, 1) by decide +kernel, rfl⟩
theorem d_Lw_848 {nm : String} : dd (m_Lw nm) 848 (.iload 4) 2 850 := ⟨show decode code 848 = .ok (.iload 4, 2) by decide +kernel, rfl⟩
theorem d_Lw_850 {nm : String} : dd (m_Lw nm) 850 (.iconst 1) 1 851 := ⟨show decode code 850 = .ok (.iconst 1, 1) by decide +kernel, rfl⟩
theorem d_Lw_851 {nm : String} : dd (m_Lw nm) 851 .iadd 1 852 := ⟨show decode code 851 = .ok (.iadd, 1) by decide +kernel, rfl⟩
theorem d_Lw_852 {nm : String} : dd (m_Lw nm) 852 .iaload 1 853 := ⟨show decode code 852 = .ok (.iaload, 1) by decide +kernel, rfl⟩
theorem d_Lw_853 {nm : String} : dd (m_Lw nm) 853 (.aload_n 0) 1 854 := ⟨show decode code 853 = .ok (.aload_n 0, 1) by decide +kernel, rfl⟩
theorem d_Lw_854 {nm : String} : dd (m_Lw nm) 854 (.iload 4) 2 856 := ⟨show decode code 854 = .ok (.iload 4, 2) by decide +kernel, rfl⟩
theorem d_Lw_856 {nm : String} : dd (m_Lw nm) 856 (.iconst 2) 1 857 := ⟨show decode code 856 = .ok (.iconst 2, 1) by decide +kernel, rfl⟩
theorem d_Lw_857 {nm : String} : dd (m_Lw nm) 857 .iadd 1 858 := ⟨show decode code 857 = .ok (.iadd, 1) by decide +kernel, rfl⟩
theorem d_Lw_858 {nm : String} : dd (m_Lw nm) 858 .iaload 1 859 := ⟨show decode code 858 = .ok (.iaload, 1) by decide +kernel, rfl⟩
theorem d_Lw_859 {nm : String} : dd (m_Lw nm) 859 (.aload_n 0) 1 860 := ⟨show decode code 859 = .ok (.aload_n 0, 1) by decide +kernel, rfl⟩
theorem d_Lw_860 {nm : String} : dd (m_Lw nm) 860 (.iload 4) 2 862 := ⟨show decode code 860 = .ok (.iload 4, 2) by decide +kernel, rfl⟩
theorem d_Lw_862 {nm : String} : dd (m_Lw nm) 862 (.iconst 3) 1 863 := ⟨show decode code 862 = .ok (.iconst 3, 1) by decide +kernel, rfl⟩
theorem d_Lw_863 {nm : String} : dd (m_Lw nm) 863 .iadd 1 864 := ⟨show decode code 863 = .ok (.iadd, 1) by decide +kernel, rfl⟩
theorem d_Lw_864 {nm : String} : dd (m_Lw nm) 864 .iaload 1 865 := ⟨show decode code 864 = .ok (.iaload, 1) by decide +kernel, rfl⟩
theorem d_Lw_865 {nm : String} : dd (m_Lw nm) 865 (.invokevirtual 93) 3 868 := ⟨show decode code 865 = .ok (.invokevirtual 93, 3) by decide +kernel, rfl⟩
theorem d_Lw_868 {nm : String} : dd (m_Lw nm) 868 (.aload_n 2) 1 869 := ⟨show decode code 868 = .ok (.aload_n 2, 1) by decide +kernel, rfl⟩
theorem d_Lw_869 {nm : String} : dd (m_Lw nm) 869 (.aload_n 0) 1 870 := ⟨show decode code 869 = .ok (.aload_n 0, 1) by decide +kernel, rfl⟩
theorem d_Lw_870 {nm : String} : dd (m_Lw nm) 870 (.iload 4) 2 872 := ⟨show decode code 870 = .ok (.iload 4, 2) by decide +kernel, rfl⟩
theorem d_Lw_872 {nm : String} : dd (m_Lw nm) 872 (.iconst 1) 1 873 := ⟨show decode code 872 = .ok (.iconst 1, 1) by decide +kernel, rfl⟩
theorem d_Lw_873 {nm : String} : dd (m_Lw nm) 873 .iadd 1 874 := ⟨show decode code 873 = .ok (.iadd, 1) by decide +kernel, rfl⟩
theorem d_Lw_874 {nm : String} : dd (m_Lw nm) 874 .iaload 1 875 := ⟨show decode code 874 = .ok (.iaload, 1) by decide +kernel, rfl⟩
theorem d_Lw_875 {nm : String} : dd (m_Lw nm) 875 (.aload_n 0) 1 876 := ⟨show decode code 875 = .ok (.aload_n 0, 1) by decide +kernel, rfl⟩
theorem d_Lw_876 {nm : String} : dd (m_Lw nm) 876 (.iload 4) 2 878 := ⟨show decode code 876 = .ok (.iload 4, 2) by decide +kernel, rfl⟩
theorem d_Lw_878 {nm : String} : dd (m_Lw nm) 878 (.iconst 2) 1 879 := ⟨show decode code 878 = .ok (.iconst 2, 1) by decide +kernel, rfl⟩
theorem d_Lw_879 {nm : String} : dd (m_Lw nm) 879 .iadd 1 880 := ⟨show decode code 879 = .ok (.iadd, 1) by decide +kernel, rfl⟩
theorem d_Lw_880 {nm : String} : dd (m_Lw nm) 880 .iaload 1 881 := ⟨show decode code 880 = .ok (.iaload, 1) by decide +kernel, rfl⟩
theorem d_Lw_881 {nm : String} : dd (m_Lw nm) 881 (.aload_n 0) 1 882 := ⟨show decode code 881 = .ok (.aload_n 0, 1) by decide +kernel, rfl⟩
theorem d_Lw_882 {nm : String} : dd (m_Lw nm) 882 (.iload 4) 2 884 := ⟨show decode code 882 = .ok (.iload 4, 2) by decide +kernel, rfl⟩
theorem d_Lw_884 {nm : String} : dd (m_Lw nm) 884 (.iconst 3) 1 885 := ⟨show decode code 884 = .ok (.iconst 3, 1) by decide +kernel, rfl⟩
theorem d_Lw_885 {nm : String} : dd (m_Lw nm) 885 .iadd 1 886 := ⟨show decode code 885 = .ok (.iadd, 1) by decide +kernel, rfl⟩
theorem d_Lw_886 {nm : String} : dd (m_Lw nm) 886 .iaload 1 887 := ⟨show decode code 886 = .ok (.iaload, 1) by decide +kernel, rfl⟩
theorem d_Lw_887 {nm : String} : dd (m_Lw nm) 887 (.invokevirtual 96) 3 890 := ⟨show decode code 887 = .ok (.invokevirtual 96, 3) by decide +kernel, rfl⟩
theorem d_Lw_890 {nm : String} : db (m_Lw nm) 890 (.if_icmp .eq) 893 1396 := ⟨506, show decode code 890 = .ok (.if_icmp .eq 506, 3) by decide +kernel, rfl, rfl⟩
theorem d_Lw_893 {nm : String} : dd (m_Lw nm) 893 (.iconst 0) 1 894 := ⟨show decode code 893 = .ok (.iconst 0, 1) by decide +kernel, rfl⟩
theorem d_Lw_894 {nm : String} : decode (mbt (m_Lw nm)) 894 = .ok (.ireturn, 1) := show decode code 894 = .ok (.ireturn, 1) by decide +kernel
theorem d_Lw_895 {nm : String} : dd (m_Lw nm) 895 (.aload_n 1) 1 896 := ⟨show decode code 895 = .ok (.aload_n 1, 1) by decide +kernel, rfl⟩
theorem d_Lw_896 {nm : String} : dd (m_Lw nm) 896 (.aload_n 0) 1 897 := ⟨show decode code 896 = .ok (.aload_n 0, 1) by decide +kernel, rfl⟩
theorem d_Lw_897 {nm : String} : dd (m_Lw nm) 897 (.iload 4) 2 899 := ⟨show decode code 897 = .ok (.iload 4, 2) by decide +kernel, rfl⟩
theorem d_Lw_899 {nm : String} : dd (m_Lw nm) 899 (.iconst 1) 1 900 := ⟨show decode code 899 = .ok (.iconst 1, 1) by decide +kernel, rfl⟩
theorem d_Lw_900 {nm : String} : dd (m_Lw nm) 900 .iadd 1 901 := ⟨show decode code 900 = .ok (.iadd, 1) by decide +kernel, rfl⟩
theorem d_Lw_901 {nm : String} : dd (m_Lw nm) 901 .iaload 1 902 := ⟨show decode code 901 = .ok (.iaload, 1) by decide +kernel, rfl⟩
theorem d_Lw_902 {nm : String} : dd (m_Lw nm) 902 (.aload_n 0) 1 903 := ⟨show decode code 902 = .ok (.aload_n 0, 1) by decide +kernel, rfl⟩
theorem d_Lw_903 {nm : String} : dd (m_Lw nm) 903 (.iload 4) 2 905 := ⟨show decode code 903 = .ok (.iload 4, 2) by decide +kernel, rfl⟩
theorem d_Lw_905 {nm : String} : dd (m_Lw nm) 905 (.iconst 2) 1 906 := ⟨show decode code 905 = .ok (.iconst 2, 1) by decide +kernel, rfl⟩
theorem d_Lw_906 {nm : String} : dd (m_Lw nm) 906 .iadd 1 907 := ⟨show decode code 906 = .ok (.iadd, 1) by decide +kernel, rfl⟩
theorem d_Lw_907 {nm : String} : dd (m_Lw nm) 907 .iaload 1 908 := ⟨show decode code 907 = .ok (.iaload, 1) by decide +kernel, rfl⟩
theorem d_Lw_908 {nm : String} : dd (m_Lw nm) 908 (.aload_n 0) 1 909 := ⟨show decode code 908 = .ok (.aload_n 0, 1) by decide +kernel, rfl⟩
theorem d_Lw_909 {nm : String} : dd (m_Lw nm) 909 (.iload 4) 2 911 := ⟨show decode code 909 = .ok (.iload 4, 2) by decide +kernel, rfl⟩
theorem d_Lw_911 {nm : String} : dd (m_Lw nm) 911 (.iconst 3) 1 912 := ⟨show decode code 911 = .ok (.iconst 3, 1) by decide +kernel, rfl⟩
theorem d_Lw_912 {nm : String} : dd (m_Lw nm) 912 .iadd 1 913 := ⟨show decode code 912 = .ok (.iadd, 1) by decide +kernel, rfl⟩
theorem d_Lw_913 {nm : String} : dd (m_Lw nm) 913 .iaload 1 914 := ⟨show decode code 913 = .ok (.iaload, 1) by decide +kernel, rfl⟩
theorem d_Lw_914 {nm : String} : dd (m_Lw nm) 914 (.invokevirtual 97) 3 917 := ⟨show decode code 914 = .ok (.invokevirtual 97, 3) by decide +kernel, rfl⟩
theorem d_Lw_917 {nm : String} : dd (m_Lw nm) 917 (.aload_n 2) 1 918 := ⟨show decode code 917 = .ok (.aload_n 2, 1) by decide +kernel, rfl⟩
theorem d_Lw_918 {nm : String} : dd (m_Lw nm) 918 (.aload_n 0) 1 919 := ⟨show decode code 918 = .ok (.aload_n 0, 1) by decide +kernel, rfl⟩
theorem d_Lw_919 {nm : String} : dd (m_Lw nm) 919 (.iload 4) 2 921 := ⟨show decode code 919 = .ok (.iload 4, 2) by decide +kernel, rfl⟩
theorem d_Lw_921 {nm : String} : dd (m_Lw nm) 921 (.iconst 1) 1 922 := ⟨show decode code 921 = .ok (.iconst 1, 1) by decide +kernel, rfl⟩
theorem d_Lw_922 {nm : String} : dd (m_Lw nm) 922 .iadd 1 923 := ⟨show decode code 922 = .ok (.iadd, 1) by decide +kernel, rfl⟩
theorem d_Lw_923 {nm : String} : dd (m_Lw nm) 923 .iaload 1 924 := ⟨show decode code 923 = .ok (.iaload, 1) by decide +kernel, rfl⟩
theorem d_Lw_924 {nm : String} : dd (m_Lw nm) 924 (.aload_n 0) 1 925 := ⟨show decode code 924 = .ok (.aload_n 0, 1) by decide +kernel, rfl⟩
theorem d_Lw_925 {nm : String} : dd (m_Lw nm) 925 (.iload 4) 2 927 := ⟨show decode code 925 = .ok (.iload 4, 2) by decide +kernel, rfl⟩
theorem d_Lw_927 {nm : String} : dd (m_Lw nm) 927 (.iconst 2) 1 928 := ⟨show decode code 927 = .ok (.iconst 2, 1) by decide +kernel, rfl⟩
theorem d_Lw_928 {nm : String} : dd (m_Lw nm) 928 .iadd 1 929 := ⟨show decode code 928 = .ok (.iadd, 1) by decide +kernel, rfl⟩
theorem d_Lw_929 {nm : String} : dd (m_Lw nm) 929 .iaload 1 930 := ⟨show decode code 929 = .ok (.iaload, 1) by decide +kernel, rfl⟩
theorem d_Lw_930 {nm : String} : dd (m_Lw nm) 930 (.aload_n 0) 1 931 := ⟨show decode code 930 = .ok (.aload_n 0, 1) by decide +kernel, rfl⟩
theorem d_Lw_931 {nm : String} : dd (m_Lw nm) 931 (.iload 4) 2 933 := ⟨show decode code 931 = .ok (.iload 4, 2) by decide +kernel, rfl⟩
theorem d_Lw_933 {nm : String} : dd (m_Lw nm) 933 (.iconst 3) 1 934 := ⟨show decode code 933 = .ok (.iconst 3, 1) by decide +kernel, rfl⟩
theorem d_Lw_934 {nm : String} : dd (m_Lw nm) 934 .iadd 1 935 := ⟨show decode code 934 = .ok (.iadd, 1) by decide +kernel, rfl⟩
theorem d_Lw_935 {nm : String} : dd (m_Lw nm) 935 .iaload 1 936 := ⟨show decode code 935 = .ok (.iaload, 1) by decide +kernel, rfl⟩
theorem d_Lw_936 {nm : String} : dd (m_Lw nm) 936 (.invokevirtual 100) 3 939 := ⟨show decode code 936 = .ok (.invokevirtual 100, 3) by decide +kernel, rfl⟩
theorem d_Lw_939 {nm : String} : db (m_Lw nm) 939 (.if_icmp .eq) 942 1396 := ⟨457, show decode code 939 = .ok (.if_icmp .eq 457, 3) by decide +kernel, rfl, rfl⟩
theorem d_Lw_942 {nm : String} : dd (m_Lw nm) 942 (.iconst 0) 1 943 := ⟨show decode code 942 = .ok (.iconst 0, 1) by decide +kernel, rfl⟩
theorem d_Lw_943 {nm : String} : decode (mbt (m_Lw nm)) 943 = .ok (.ireturn, 1) := show decode code 943 = .ok (.ireturn, 1) by decide +kernel
theorem d_Lw_944 {nm : String} : dd (m_Lw nm) 944 (.aload_n 1) 1 945 := ⟨show decode code 944 = .ok (.aload_n 1, 1) by decide +kernel, rfl⟩
theorem d_Lw_945 {nm : String} : dd (m_Lw nm) 945 (.aload_n 0) 1 946 := ⟨show decode code 945 = .ok (.aload_n 0, 1) by decide +kernel, rfl⟩
theorem d_Lw_946 {nm : String} : dd (m_Lw nm) 946 (.iload 4) 2 948 := ⟨show decode code 946 = .ok (.iload 4, 2) by decide +kernel, rfl⟩
theorem d_Lw_948 {nm : String} : dd (m_Lw nm) 948 (.iconst 1) 1 949 := ⟨show decode code 948 = .ok (.iconst 1, 1) by decide +kernel, rfl⟩
theorem d_Lw_949 {nm : String} : dd (m_Lw nm) 949 .iadd 1 950 := ⟨show decode code 949 = .ok (.iadd, 1) by decide +kernel, rfl⟩
theorem d_Lw_950 {nm : String} : dd (m_Lw nm) 950 .iaload 1 951 := ⟨show decode code 950 = .ok (.iaload, 1) by decide +kernel, rfl⟩
theorem d_Lw_951 {nm : String} : dd (m_Lw nm) 951 (.aload_n 0) 1 952 := ⟨show decode code 951 = .ok (.aload_n 0, 1) by decide +kernel, rfl⟩
theorem d_Lw_952 {nm : String} : dd (m_Lw nm) 952 (.iload 4) 2 954 := ⟨show decode code 952 = .ok (.iload 4, 2) by decide +kernel, rfl⟩
theorem d_Lw_954 {nm : String} : dd (m_Lw nm) 954 (.iconst 2) 1 955 := ⟨show decode code 954 = .ok (.iconst 2, 1) by decide +kernel, rfl⟩
theorem d_Lw_955 {nm : String} : dd (m_Lw nm) 955 .iadd 1 956 := ⟨show decode code 955 = .ok (.iadd, 1) by decide +kernel, rfl⟩
theorem d_Lw_956 {nm : String} : dd (m_Lw nm) 956 .iaload 1 957 := ⟨show decode code 956 = .ok (.iaload, 1) by decide +kernel, rfl⟩
theorem d_Lw_957 {nm : String} : dd (m_Lw nm) 957 (.aload_n 0) 1 958 := ⟨show decode code 957 = .ok (.aload_n 0, 1) by decide +kernel, rfl⟩
theorem d_Lw_958 {nm : String} : dd (m_Lw nm) 958 (.iload 4) 2 960 := ⟨show decode code 958 = .ok (.iload 4, 2) by decide +kernel, rfl⟩
theorem d_Lw_960 {nm : String} : dd (m_Lw nm) 960 (.iconst 3) 1 961 := ⟨show decode code 960 = .ok (.iconst 3, 1) by decide +kernel, rfl⟩
theorem d_Lw_961 {nm : String} : dd (m_Lw nm) 961 .iadd 1 962 := ⟨show decode code 961 = .ok (.iadd, 1) by decide +kernel, rfl⟩
theorem d_Lw_962 {nm : String} : dd (m_Lw nm) 962 .iaload 1 963 := ⟨show decode code 962 = .ok (.iaload, 1) by decide +kernel, rfl⟩
theorem d_Lw_963 {nm : String} : dd (m_Lw nm) 963 (.aload_n 3) 1 964 := ⟨show decode code 963 = .ok (.aload_n 3, 1) by decide +kernel, rfl⟩
theorem d_Lw_964 {nm : String} : dd (m_Lw nm) 964 (.invokestatic 101) 3 967 := ⟨show decode code 964 = .ok (.invokestatic 101, 3) by decide +kernel, rfl⟩
theorem d_Lw_967 {nm : String} : dd (m_Lw nm) 967 (.istore 5) 2 969 := ⟨show decode code 967 = .ok (.istore 5, 2) by decide +kernel, rfl⟩
theorem d_Lw_969 {nm : String} : dd (m_Lw nm) 969 (.aload_n 2) 1 970 := ⟨show decode code 969 = .ok (.aload_n 2, 1) by decide +kernel, rfl⟩
theorem d_Lw_970 {nm : String} : dd (m_Lw nm) 970 (.aload_n 0) 1 971 := ⟨show decode code 970 = .ok (.aload_n 0, 1) by decide +kernel, rfl⟩
theorem d_Lw_971 {nm : String} : dd (m_Lw nm) 971 (.iload 4) 2 973 := ⟨show decode code 971 = .ok (.iload 4, 2) by decide +kernel, rfl⟩
theorem d_Lw_973 {nm : String} : dd (m_Lw nm) 973 (.iconst 1) 1 974 := ⟨show decode code 973 = .ok (.iconst 1, 1) by decide +kernel, rfl⟩
theorem d_Lw_974 {nm : String} : dd (m_Lw nm) 974 .iadd 1 975 := ⟨show decode code 974 = .ok (.iadd, 1) by decide +kernel, rfl⟩
theorem d_Lw_975 {nm : String} : dd (m_Lw nm) 975 .iaload 1 976 := ⟨show decode code 975 = .ok (.iaload, 1) by decide +kernel, rfl⟩
theorem d_Lw_976 {nm : String} : dd (m_Lw nm) 976 (.aload_n 0) 1 977 := ⟨show decode code 976 = .ok (.aload_n 0, 1) by decide +kernel, rfl⟩
theorem d_Lw_977 {nm : String} : dd (m_Lw nm) 977 (.iload 4) 2 979 := ⟨show decode code 977 = .ok (.iload 4, 2) by decide +kernel, rfl⟩
theorem d_Lw_979 {nm : String} : dd (m_Lw nm) 979 (.iconst 2) 1 980 := ⟨show decode code 979 = .ok (.iconst 2, 1) by decide +kernel, rfl⟩
