section Dec
theorem dL_law__636 : decode cL_law_ 636 = .ok (.iload 5, 2) := by decide +kernel
theorem dL_law__638 : decode cL_law_ 638 = .ok (.if_icmp .eq 5, 3) := by decide +kernel
theorem dL_law__641 : decode cL_law_ 641 = .ok (.iconst 0, 1) := by decide +kernel
theorem dL_law__642 : decode cL_law_ 642 = .ok (.ireturn, 1) := by decide +kernel
theorem dL_law__643 : decode cL_law_ 643 = .ok (.iload 5, 2) := by decide +kernel
theorem dL_law__645 : decode cL_law_ 645 = .ok (.ifCond .ne 15, 3) := by decide +kernel
theorem dL_law__648 : decode cL_law_ 648 = .ok (.aload_n 3, 1) := by decide +kernel
theorem dL_law__649 : decode cL_law_ 649 = .ok (.iconst 0, 1) := by decide +kernel
theorem dL_law__650 : decode cL_law_ 650 = .ok (.laload, 1) := by decide +kernel
theorem dL_law__651 : decode cL_law_ 651 = .ok (.iload 6, 2) := by decide +kernel
theorem dL_law__653 : decode cL_law_ 653 = .ok (.i2l, 1) := by decide +kernel
theorem dL_law__654 : decode cL_law_ 654 = .ok (.lcmp, 1) := by decide +kernel
theorem dL_law__655 : decode cL_law_ 655 = .ok (.ifCond .eq 5, 3) := by decide +kernel
theorem dL_law__658 : decode cL_law_ 658 = .ok (.iconst 0, 1) := by decide +kernel
theorem dL_law__659 : decode cL_law_ 659 = .ok (.ireturn, 1) := by decide +kernel
theorem dL_law__660 : decode cL_law_ 660 = .ok (.goto 2032, 3) := by decide +kernel
theorem dL_law__663 : decode cL_law_ 663 = .ok (.aload_n 1, 1) := by decide +kernel
theorem dL_law__664 : decode cL_law_ 664 = .ok (.aload_n 0, 1) := by decide +kernel
theorem dL_law__665 : decode cL_law_ 665 = .ok (.iload 4, 2) := by decide +kernel
theorem dL_law__667 : decode cL_law_ 667 = .ok (.iconst 1, 1) := by decide +kernel
theorem dL_law__668 : decode cL_law_ 668 = .ok (.iadd, 1) := by decide +kernel
theorem dL_law__669 : decode cL_law_ 669 = .ok (.iaload, 1) := by decide +kernel
theorem dL_law__670 : decode cL_law_ 670 = .ok (.aload_n 0, 1) := by decide +kernel
theorem dL_law__671 : decode cL_law_ 671 = .ok (.iload 4, 2) := by decide +kernel
theorem dL_law__673 : decode cL_law_ 673 = .ok (.iconst 2, 1) := by decide +kernel
theorem dL_law__674 : decode cL_law_ 674 = .ok (.iadd, 1) := by decide +kernel
theorem dL_law__675 : decode cL_law_ 675 = .ok (.iaload, 1) := by decide +kernel
theorem dL_law__676 : decode cL_law_ 676 = .ok (.aload_n 3, 1) := by decide +kernel
theorem dL_law__677 : decode cL_law_ 677 = .ok (.invokestatic 162, 3) := by decide +kernel
theorem dL_law__680 : decode cL_law_ 680 = .ok (.istore 5, 2) := by decide +kernel
theorem dL_law__682 : decode cL_law_ 682 = .ok (.aload_n 2, 1) := by decide +kernel
theorem dL_law__683 : decode cL_law_ 683 = .ok (.aload_n 0, 1) := by decide +kernel
theorem dL_law__684 : decode cL_law_ 684 = .ok (.iload 4, 2) := by decide +kernel
theorem dL_law__686 : decode cL_law_ 686 = .ok (.iconst 1, 1) := by decide +kernel
theorem dL_law__687 : decode cL_law_ 687 = .ok (.iadd, 1) := by decide +kernel
theorem dL_law__688 : decode cL_law_ 688 = .ok (.iaload, 1) := by decide +kernel
theorem dL_law__689 : decode cL_law_ 689 = .ok (.aload_n 0, 1) := by decide +kernel
theorem dL_law__690 : decode cL_law_ 690 = .ok (.iload 4, 2) := by decide +kernel
theorem dL_law__692 : decode cL_law_ 692 = .ok (.iconst 2, 1) := by decide +kernel
theorem dL_law__693 : decode cL_law_ 693 = .ok (.iadd, 1) := by decide +kernel
theorem dL_law__694 : decode cL_law_ 694 = .ok (.iaload, 1) := by decide +kernel
theorem dL_law__695 : decode cL_law_ 695 = .ok (.invokevirtual 164, 3) := by decide +kernel
theorem dL_law__698 : decode cL_law_ 698 = .ok (.istore 6, 2) := by decide +kernel
theorem dL_law__700 : decode cL_law_ 700 = .ok (.aload_n 2, 1) := by decide +kernel
theorem dL_law__701 : decode cL_law_ 701 = .ok (.invokevirtual 134, 3) := by decide +kernel
theorem dL_law__704 : decode cL_law_ 704 = .ok (.iload 5, 2) := by decide +kernel
theorem dL_law__706 : decode cL_law_ 706 = .ok (.if_icmp .eq 5, 3) := by decide +kernel
theorem dL_law__709 : decode cL_law_ 709 = .ok (.iconst 0, 1) := by decide +kernel
theorem dL_law__710 : decode cL_law_ 710 = .ok (.ireturn, 1) := by decide +kernel
theorem dL_law__711 : decode cL_law_ 711 = .ok (.iload 5, 2) := by decide +kernel
theorem dL_law__713 : decode cL_law_ 713 = .ok (.ifCond .ne 15, 3) := by decide +kernel
theorem dL_law__716 : decode cL_law_ 716 = .ok (.aload_n 3, 1) := by decide +kernel
theorem dL_law__717 : decode cL_law_ 717 = .ok (.iconst 0, 1) := by decide +kernel
theorem dL_law__718 : decode cL_law_ 718 = .ok (.laload, 1) := by decide +kernel
theorem dL_law__719 : decode cL_law_ 719 = .ok (.iload 6, 2) := by decide +kernel
theorem dL_law__721 : decode cL_law_ 721 = .ok (.i2l, 1) := by decide +kernel
theorem dL_law__722 : decode cL_law_ 722 = .ok (.lcmp, 1) := by decide +kernel
theorem dL_law__723 : decode cL_law_ 723 = .ok (.ifCond .eq 5, 3) := by decide +kernel
theorem dL_law__726 : decode cL_law_ 726 = .ok (.iconst 0, 1) := by decide +kernel
theorem dL_law__727 : decode cL_law_ 727 = .ok (.ireturn, 1) := by decide +kernel
theorem dL_law__728 : decode cL_law_ 728 = .ok (.goto 1964, 3) := by decide +kernel
theorem dL_law__731 : decode cL_law_ 731 = .ok (.aload_n 1, 1) := by decide +kernel
theorem dL_law__732 : decode cL_law_ 732 = .ok (.aload_n 0, 1) := by decide +kernel
theorem dL_law__733 : decode cL_law_ 733 = .ok (.iload 4, 2) := by decide +kernel
theorem dL_law__735 : decode cL_law_ 735 = .ok (.iconst 1, 1) := by decide +kernel
theorem dL_law__736 : decode cL_law_ 736 = .ok (.iadd, 1) := by decide +kernel
theorem dL_law__737 : decode cL_law_ 737 = .ok (.iaload, 1) := by decide +kernel
theorem dL_law__738 : decode cL_law_ 738 = .ok (.aload_n 0, 1) := by decide +kernel
theorem dL_law__739 : decode cL_law_ 739 = .ok (.iload 4, 2) := by decide +kernel
theorem dL_law__741 : decode cL_law_ 741 = .ok (.iconst 2, 1) := by decide +kernel
theorem dL_law__742 : decode cL_law_ 742 = .ok (.iadd, 1) := by decide +kernel
theorem dL_law__743 : decode cL_law_ 743 = .ok (.iaload, 1) := by decide +kernel
theorem dL_law__744 : decode cL_law_ 744 = .ok (.aload_n 3, 1) := by decide +kernel
theorem dL_law__745 : decode cL_law_ 745 = .ok (.invokestatic 165, 3) := by decide +kernel
theorem dL_law__748 : decode cL_law_ 748 = .ok (.istore 5, 2) := by decide +kernel
theorem dL_law__750 : decode cL_law_ 750 = .ok (.aload_n 2, 1) := by decide +kernel
theorem dL_law__751 : decode cL_law_ 751 = .ok (.aload_n 0, 1) := by decide +kernel
theorem dL_law__752 : decode cL_law_ 752 = .ok (.iload 4, 2) := by decide +kernel
theorem dL_law__754 : decode cL_law_ 754 = .ok (.iconst 1, 1) := by decide +kernel
theorem dL_law__755 : decode cL_law_ 755 = .ok (.iadd, 1) := by decide +kernel
theorem dL_law__756 : decode cL_law_ 756 = .ok (.iaload, 1) := by decide +kernel
theorem dL_law__757 : decode cL_law_ 757 = .ok (.aload_n 0, 1) := by decide +kernel
theorem dL_law__758 : decode cL_law_ 758 = .ok (.iload 4, 2) := by decide +kernel
theorem dL_law__760 : decode cL_law_ 760 = .ok (.iconst 2, 1) := by decide +kernel
theorem dL_law__761 : decode cL_law_ 761 = .ok (.iadd, 1) := by decide +kernel
theorem dL_law__762 : decode cL_law_ 762 = .ok (.iaload, 1) := by decide +kernel
theorem dL_law__763 : decode cL_law_ 763 = .ok (.invokevirtual 167, 3) := by decide +kernel
theorem dL_law__766 : decode cL_law_ 766 = .ok (.istore 6, 2) := by decide +kernel
theorem dL_law__768 : decode cL_law_ 768 = .ok (.aload_n 2, 1) := by decide +kernel
theorem dL_law__769 : decode cL_law_ 769 = .ok (.invokevirtual 134, 3) := by decide +kernel
theorem dL_law__772 : decode cL_law_ 772 = .ok (.iload 5, 2) := by decide +kernel
theorem dL_law__774 : decode cL_law_ 774 = .ok (.if_icmp .eq 5, 3) := by decide +kernel
theorem dL_law__777 : decode cL_law_ 777 = .ok (.iconst 0, 1) := by decide +kernel
theorem dL_law__778 : decode cL_law_ 778 = .ok (.ireturn, 1) := by decide +kernel
theorem dL_law__779 : decode cL_law_ 779 = .ok (.iload 5, 2) := by decide +kernel
theorem dL_law__781 : decode cL_law_ 781 = .ok (.ifCond .ne 15, 3) := by decide +kernel
theorem dL_law__784 : decode cL_law_ 784 = .ok (.aload_n 3, 1) := by decide +kernel
theorem dL_law__785 : decode cL_law_ 785 = .ok (.iconst 0, 1) := by decide +kernel
theorem dL_law__786 : decode cL_law_ 786 = .ok (.laload, 1) := by decide +kernel
theorem dL_law__787 : decode cL_law_ 787 = .ok (.iload 6, 2) := by decide +kernel
theorem dL_law__789 : decode cL_law_ 789 = .ok (.i2l, 1) := by decide +kernel
theorem dL_law__790 : decode cL_law_ 790 = .ok (.lcmp, 1) := by decide +kernel
theorem dL_law__791 : decode cL_law_ 791 = .ok (.ifCond .eq 5, 3) := by decide +kernel
theorem dL_law__794 : decode cL_law_ 794 = .ok (.iconst 0, 1) := by decide +kernel
theorem dL_law__795 : decode cL_law_ 795 = .ok (.ireturn, 1) := by decide +kernel
theorem dL_law__796 : decode cL_law_ 796 = .ok (.goto 1896, 3) := by decide +kernel
theorem dL_law__799 : decode cL_law_ 799 = .ok (.aload_n 1, 1) := by decide +kernel
theorem dL_law__800 : decode cL_law_ 800 = .ok (.aload_n 0, 1) := by decide +kernel
theorem dL_law__801 : decode cL_law_ 801 = .ok (.iload 4, 2) := by decide +kernel
theorem dL_law__803 : decode cL_law_ 803 = .ok (.iconst 1, 1) := by decide +kernel
theorem dL_law__804 : decode cL_law_ 804 = .ok (.iadd, 1) := by decide +kernel
theorem dL_law__805 : decode cL_law_ 805 = .ok (.iaload, 1) := by decide +kernel
theorem dL_law__806 : decode cL_law_ 806 = .ok (.aload_n 0, 1) := by decide +kernel
theorem dL_law__807 : decode cL_law_ 807 = .ok (.iload 4, 2) := by decide +kernel
theorem dL_law__809 : decode cL_law_ 809 = .ok (.iconst 2, 1) := by decide +kernel
theorem dL_law__810 : decode cL_law_ 810 = .ok (.iadd, 1) := by decide +kernel
theorem dL_law__811 : decode cL_law_ 811 = .ok (.iaload, 1) := by decide +kernel
theorem dL_law__812 : decode cL_law_ 812 = .ok (.aload_n 3, 1) := by decide +kernel
theorem dL_law__813 : decode cL_law_ 813 = .ok (.invokestatic 168, 3) := by decide +kernel
theorem dL_law__816 : decode cL_law_ 816 = .ok (.istore 5, 2) := by decide +kernel
theorem dL_law__818 : decode cL_law_ 818 = .ok (.aload_n 2, 1) := by decide +kernel
theorem dL_law__819 : decode cL_law_ 819 = .ok (.aload_n 0, 1) := by decide +kernel
theorem dL_law__820 : decode cL_law_ 820 = .ok (.iload 4, 2) := by decide +kernel
theorem dL_law__822 : decode cL_law_ 822 = .ok (.iconst 1, 1) := by decide +kernel
theorem dL_law__823 : decode cL_law_ 823 = .ok (.iadd, 1) := by decide +kernel
theorem dL_law__824 : decode cL_law_ 824 = .ok (.iaload, 1) := by decide +kernel
theorem dL_law__825 : decode cL_law_ 825 = .ok (.aload_n 0, 1) := by decide +kernel
theorem dL_law__826 : decode cL_law_ 826 = .ok (.iload 4, 2) := by decide +kernel
theorem dL_law__828 : decode cL_law_ 828 = .ok (.iconst 2, 1) := by decide +kernel
theorem dL_law__829 : decode cL_law_ 829 = .ok (.iadd, 1) := by decide +kernel
theorem dL_law__830 : decode cL_law_ 830 = .ok (.iaload, 1) := by decide +kernel
theorem dL_law__831 : decode cL_law_ 831 = .ok (.invokevirtual 170, 3) := by decide +kernel
theorem dL_law__834 : decode cL_law_ 834 = .ok (.istore 6, 2) := by decide +kernel
theorem dL_law__836 : decode cL_law_ 836 = .ok (.aload_n 2, 1) := by decide +kernel
theorem dL_law__837 : decode cL_law_ 837 = .ok (.invokevirtual 134, 3) := by decide +kernel
theorem dL_law__840 : decode cL_law_ 840 = .ok (.iload 5, 2) := by decide +kernel
theorem dL_law__842 : decode cL_law_ 842 = .ok (.if_icmp .eq 5, 3) := by decide +kernel
theorem dL_law__845 : decode cL_law_ 845 = .ok (.iconst 0, 1) := by decide +kernel
theorem dL_law__846 : decode cL_law_ 846 = .ok (.ireturn, 1) := by decide +kernel
theorem dL_law__847 : decode cL_law_ 847 = .ok (.iload 5, 2) := by decide +kernel
theorem dL_law__849 : decode cL_law_ 849 = .ok (.ifCond .ne 15, 3) := by decide +kernel
theorem dL_law__852 : decode cL_law_ 852 = .ok (.aload_n 3, 1) := by decide +kernel
theorem dL_law__853 : decode cL_law_ 853 = .ok (.iconst 0, 1) := by decide +kernel
theorem dL_law__854 : decode cL_law_ 854 = .ok (.laload, 1) := by decide +kernel
theorem dL_law__855 : decode cL_law_ 855 = .ok (.iload 6, 2) := by decide +kernel
theorem dL_law__857 : decode cL_law_ 857 = .ok (.i2l, 1) := by decide +kernel
theorem dL_law__858 : decode cL_law_ 858 = .ok (.lcmp, 1) := by decide +kernel
theorem dL_law__859 : decode cL_law_ 859 = .ok (.ifCond .eq 5, 3) := by decide +kernel
theorem dL_law__862 : decode cL_law_ 862 = .ok (.iconst 0, 1) := by decide +kernel
theorem dL_law__863 : decode cL_law_ 863 = .ok (.ireturn, 1) := by decide +kernel
theorem dL_law__864 : decode cL_law_ 864 = .ok (.goto 1828, 3) := by decide +kernel
theorem dL_law__867 : decode cL_law_ 867 = .ok (.aload_n 1, 1) := by decide +kernel
theorem dL_law__868 : decode cL_law_ 868 = .ok (.aload_n 0, 1) := by decide +kernel
theorem dL_law__869 : decode cL_law_ 869 = .ok (.iload 4, 2) := by decide +kernel
theorem dL_law__871 : decode cL_law_ 871 = .ok (.iconst 1, 1) := by decide +kernel
theorem dL_law__872 : decode cL_law_ 872 = .ok (.iadd, 1) := by decide +kernel
theorem dL_law__873 : decode cL_law_ 873 = .ok (.iaload, 1) := by decide +kernel
theorem dL_law__874 : decode cL_law_ 874 = .ok (.aload_n 0, 1) := by decide +kernel
theorem dL_law__875 : decode cL_law_ 875 = .ok (.iload 4, 2) := by decide +kernel
theorem dL_law__877 : decode cL_law_ 877 = .ok (.iconst 2, 1) := by decide +kernel
theorem dL_law__878 : decode cL_law_ 878 = .ok (.iadd, 1) := by decide +kernel
theorem dL_law__879 : decode cL_law_ 879 = .ok (.iaload, 1) := by decide +kernel
theorem dL_law__880 : decode cL_law_ 880 = .ok (.aload_n 3, 1) := by decide +kernel
theorem dL_law__881 : decode cL_law_ 881 = .ok (.invokestatic 171, 3) := by decide +kernel
theorem dL_law__884 : decode cL_law_ 884 = .ok (.istore 5, 2) := by decide +kernel
theorem dL_law__886 : decode cL_law_ 886 = .ok (.aload_n 2, 1) := by decide +kernel
theorem dL_law__887 : decode cL_law_ 887 = .ok (.aload_n 0, 1) := by decide +kernel
theorem dL_law__888 : decode cL_law_ 888 = .ok (.iload 4, 2) := by decide +kernel
theorem dL_law__890 : decode cL_law_ 890 = .ok (.iconst 1, 1) := by decide +kernel
theorem dL_law__891 : decode cL_law_ 891 = .ok (.iadd, 1) := by decide +kernel
theorem dL_law__892 : decode cL_law_ 892 = .ok (.iaload, 1) := by decide +kernel
theorem dL_law__893 : decode cL_law_ 893 = .ok (.aload_n 0, 1) := by decide +kernel
theorem dL_law__894 : decode cL_law_ 894 = .ok (.iload 4, 2) := by decide +kernel
theorem dL_law__896 : decode cL_law_ 896 = .ok (.iconst 2, 1) := by decide +kernel
theorem dL_law__897 : decode cL_law_ 897 = .ok (.iadd, 1) := by decide +kernel
theorem dL_law__898 : decode cL_law_ 898 = .ok (.iaload, 1) := by decide +kernel
theorem dL_law__899 : decode cL_law_ 899 = .ok (.invokevirtual 173, 3) := by decide +kernel
theorem dL_law__902 : decode cL_law_ 902 = .ok (.istore 6, 2) := by decide +kernel
theorem dL_law__904 : decode cL_law_ 904 = .ok (.aload_n 2, 1) := by decide +kernel
theorem dL_law__905 : decode cL_law_ 905 = .ok (.invokevirtual 134, 3) := by decide +kernel
theorem dL_law__908 : decode cL_law_ 908 = .ok (.iload 5, 2) := by decide +kernel
theorem dL_law__910 : decode cL_law_ 910 = .ok (.if_icmp .eq 5, 3) := by decide +kernel
theorem dL_law__913 : decode cL_law_ 913 = .ok (.iconst 0, 1) := by decide +kernel
theorem dL_law__914 : decode cL_law_ 914 = .ok (.ireturn, 1) := by decide +kernel
theorem dL_law__915 : decode cL_law_ 915 = .ok (.iload 5, 2) := by decide +kernel
theorem dL_law__917 : decode cL_law_ 917 = .ok (.ifCond .ne 15, 3) := by decide +kernel
theorem dL_law__920 : decode cL_law_ 920 = .ok (.aload_n 3, 1) := by decide +kernel
theorem dL_law__921 : decode cL_law_ 921 = .ok (.iconst 0, 1) := by decide +kernel
theorem dL_law__922 : decode cL_law_ 922 = .ok (.laload, 1) := by decide +kernel
theorem dL_law__923 : decode cL_law_ 923 = .ok (.iload 6, 2) := by decide +kernel
theorem dL_law__925 : decode cL_law_ 925 = .ok (.i2l, 1) := by decide +kernel
theorem dL_law__926 : decode cL_law_ 926 = .ok (.lcmp, 1) := by decide +kernel
theorem dL_law__927 : decode cL_law_ 927 = .ok (.ifCond .eq 5, 3) := by decide +kernel
theorem dL_law__930 : decode cL_law_ 930 = .ok (.iconst 0, 1) := by decide +kernel
theorem dL_law__931 : decode cL_law_ 931 = .ok (.ireturn, 1) := by decide +kernel
theorem dL_law__932 : decode cL_law_ 932 = .ok (.goto 1760, 3) := by decide +kernel
theorem dL_law__935 : decode cL_law_ 935 = .ok (.aload_n 1, 1) := by decide +kernel
theorem dL_law__936 : decode cL_law_ 936 = .ok (.aload_n 0, 1) := by decide +kernel
theorem dL_law__937 : decode cL_law_ 937 = .ok (.iload 4, 2) := by decide +kernel
theorem dL_law__939 : decode cL_law_ 939 = .ok (.iconst 1, 1) := by decide +kernel
theorem dL_law__940 : decode cL_law_ 940 = .ok (.iadd, 1) := by decide +kernel
theorem dL_law__941 : decode cL_law_ 941 = .ok (.iaload, 1) := by decide +kernel
theorem dL_law__942 : decode cL_law_ 942 = .ok (.aload_n 0, 1) := by decide +kernel
theorem dL_law__943 : decode cL_law_ 943 = .ok (.iload 4, 2) := by decide +kernel
theorem dL_law__945 : decode cL_law_ 945 = .ok (.iconst 2, 1) := by decide +kernel
theorem dL_law__946 : decode cL_law_ 946 = .ok (.iadd, 1) := by decide +kernel
theorem dL_law__947 : decode cL_law_ 947 = .ok (.iaload, 1) := by decide +kernel
theorem dL_law__948 : decode cL_law_ 948 = .ok (.aload_n 0, 1) := by decide +kernel
theorem dL_law__949 : decode cL_law_ 949 = .ok (.iload 4, 2) := by decide +kernel
theorem dL_law__951 : decode cL_law_ 951 = .ok (.iconst 3, 1) := by decide +kernel
theorem dL_law__952 : decode cL_law_ 952 = .ok (.iadd, 1) := by decide +kernel
theorem dL_law__953 : decode cL_law_ 953 = .ok (.iaload, 1) := by decide +kernel
theorem dL_law__954 : decode cL_law_ 954 = .ok (.aload_n 0, 1) := by decide +kernel
theorem dL_law__955 : decode cL_law_ 955 = .ok (.iload 4, 2) := by decide +kernel
theorem dL_law__957 : decode cL_law_ 957 = .ok (.iconst 4, 1) := by decide +kernel
theorem dL_law__958 : decode cL_law_ 958 = .ok (.iadd, 1) := by decide +kernel
theorem dL_law__959 : decode cL_law_ 959 = .ok (.iaload, 1) := by decide +kernel
theorem dL_law__960 : decode cL_law_ 960 = .ok (.aload_n 0, 1) := by decide +kernel
theorem dL_law__961 : decode cL_law_ 961 = .ok (.iload 4, 2) := by decide +kernel
theorem dL_law__963 : decode cL_law_ 963 = .ok (.iconst 5, 1) := by decide +kernel
theorem dL_law__964 : decode cL_law_ 964 = .ok (.iadd, 1) := by decide +kernel
theorem dL_law__965 : decode cL_law_ 965 = .ok (.iaload, 1) := by decide +kernel
theorem dL_law__966 : decode cL_law_ 966 = .ok (.aload_n 0, 1) := by decide +kernel
theorem dL_law__967 : decode cL_law_ 967 = .ok (.iload 4, 2) := by decide +kernel
theorem dL_law__969 : decode cL_law_ 969 = .ok (.bipush 6, 2) := by decide +kernel
theorem dL_law__971 : decode cL_law_ 971 = .ok (.iadd, 1) := by decide +kernel
theorem dL_law__972 : decode cL_law_ 972 = .ok (.iaload, 1) := by decide +kernel
theorem dL_law__973 : decode cL_law_ 973 = .ok (.aload_n 0, 1) := by decide +kernel
theorem dL_law__974 : decode cL_law_ 974 = .ok (.iload 4, 2) := by decide +kernel
theorem dL_law__976 : decode cL_law_ 976 = .ok (.bipush 7, 2) := by decide +kernel
theorem dL_law__978 : decode cL_law_ 978 = .ok (.iadd, 1) := by decide +kernel
theorem dL_law__979 : decode cL_law_ 979 = .ok (.iaload, 1) := by decide +kernel
theorem dL_law__980 : decode cL_law_ 980 = .ok (.aload_n 0, 1) := by decide +kernel
theorem dL_law__981 : decode cL_law_ 981 = .ok (.iload 4, 2) := by decide +kernel
theorem dL_law__983 : decode cL_law_ 983 = .ok (.bipush 8, 2) := by decide +kernel
theorem dL_law__985 : decode cL_law_ 985 = .ok (.iadd, 1) := by decide +kernel
theorem dL_law__986 : decode cL_law_ 986 = .ok (.iaload, 1) := by decide +kernel
theorem dL_law__987 : decode cL_law_ 987 = .ok (.aload_n 0, 1) := by decide +kernel
theorem dL_law__988 : decode cL_law_ 988 = .ok (.iload 4, 2) := by decide +kernel
theorem dL_law__990 : decode cL_law_ 990 = .ok (.bipush 9, 2) := by decide +kernel
theorem dL_law__992 : decode cL_law_ 992 = .ok (.iadd, 1) := by decide +kernel
theorem dL_law__993 : decode cL_law_ 993 = .ok (.iaload, 1) := by decide +kernel
theorem dL_law__994 : decode cL_law_ 994 = .ok (.aload_n 3, 1) := by decide +kernel
theorem dL_law__995 : decode cL_law_ 995 = .ok (.invokestatic 174, 3) := by decide +kernel
theorem dL_law__998 : decode cL_law_ 998 = .ok (.istore 5, 2) := by decide +kernel
theorem dL_law__1000 : decode cL_law_ 1000 = .ok (.aload_n 2, 1) := by decide +kernel
theorem dL_law__1001 : decode cL_law_ 1001 = .ok (.aload_n 0, 1) := by decide +kernel
theorem dL_law__1002 : decode cL_law_ 1002 = .ok (.iload 4, 2) := by decide +kernel
theorem dL_law__1004 : decode cL_law_ 1004 = .ok (.iconst 1, 1) := by decide +kernel
theorem dL_law__1005 : decode cL_law_ 1005 = .ok (.iadd, 1) := by decide +kernel
theorem dL_law__1006 : decode cL_law_ 1006 = .ok (.iaload, 1) := by decide +kernel
theorem dL_law__1007 : decode cL_law_ 1007 = .ok (.aload_n 0, 1) := by decide +kernel
theorem dL_law__1008 : decode cL_law_ 1008 = .ok (.iload 4, 2) := by decide +kernel
theorem dL_law__1010 : decode cL_law_ 1010 = .ok (.iconst 2, 1) := by decide +kernel
theorem dL_law__1011 : decode cL_law_ 1011 = .ok (.iadd, 1) := by decide +kernel
theorem dL_law__1012 : decode cL_law_ 1012 = .ok (.iaload, 1) := by decide +kernel
theorem dL_law__1013 : decode cL_law_ 1013 = .ok (.aload_n 0, 1) := by decide +kernel
theorem dL_law__1014 : decode cL_law_ 1014 = .ok (.iload 4, 2) := by decide +kernel
theorem dL_law__1016 : decode cL_law_ 1016 = .ok (.iconst 3, 1) := by decide +kernel
theorem dL_law__1017 : decode cL_law_ 1017 = .ok (.iadd, 1) := by decide +kernel
theorem dL_law__1018 : decode cL_law_ 1018 = .ok (.iaload, 1) := by decide +kernel
theorem dL_law__1019 : decode cL_law_ 1019 = .ok (.aload_n 0, 1) := by decide +kernel
theorem dL_law__1020 : decode cL_law_ 1020 = .ok (.iload 4, 2) := by decide +kernel
theorem dL_law__1022 : decode cL_law_ 1022 = .ok (.iconst 4, 1) := by decide +kernel
theorem dL_law__1023 : decode cL_law_ 1023 = .ok (.iadd, 1) := by decide +kernel
theorem dL_law__1024 : decode cL_law_ 1024 = .ok (.iaload, 1) := by decide +kernel
theorem dL_law__1025 : decode cL_law_ 1025 = .ok (.aload_n 0, 1) := by decide +kernel
theorem dL_law__1026 : decode cL_law_ 1026 = .ok (.iload 4, 2) := by decide +kernel
theorem dL_law__1028 : decode cL_law_ 1028 = .ok (.iconst 5, 1) := by decide +kernel
theorem dL_law__1029 : decode cL_law_ 1029 = .ok (.iadd, 1) := by decide +kernel
theorem dL_law__1030 : decode cL_law_ 1030 = .ok (.iaload, 1) := by decide +kernel
theorem dL_law__1031 : decode cL_law_ 1031 = .ok (.aload_n 0, 1) := by decide +kernel
theorem dL_law__1032 : decode cL_law_ 1032 = .ok (.iload 4, 2) := by decide +kernel
theorem dL_law__1034 : decode cL_law_ 1034 = .ok (.bipush 6, 2) := by decide +kernel
theorem dL_law__1036 : decode cL_law_ 1036 = .ok (.iadd, 1) := by decide +kernel
theorem dL_law__1037 : decode cL_law_ 1037 = .ok (.iaload, 1) := by decide +kernel
theorem dL_law__1038 : decode cL_law_ 1038 = .ok (.aload_n 0, 1) := by decide +kernel
theorem dL_law__1039 : decode cL_law_ 1039 = .ok (.iload 4, 2) := by decide +kernel
theorem dL_law__1041 : decode cL_law_ 1041 = .ok (.bipush 7, 2) := by decide +kernel
theorem dL_law__1043 : decode cL_law_ 1043 = .ok (.iadd, 1) := by decide +kernel
theorem dL_law__1044 : decode cL_law_ 1044 = .ok (.iaload, 1) := by decide +kernel
theorem dL_law__1045 : decode cL_law_ 1045 = .ok (.aload_n 0, 1) := by decide +kernel
theorem dL_law__1046 : decode cL_law_ 1046 = .ok (.iload 4, 2) := by decide +kernel
theorem dL_law__1048 : decode cL_law_ 1048 = .ok (.bipush 8, 2) := by decide +kernel
theorem dL_law__1050 : decode cL_law_ 1050 = .ok (.iadd, 1) := by decide +kernel
theorem dL_law__1051 : decode cL_law_ 1051 = .ok (.iaload, 1) := by decide +kernel
theorem dL_law__1052 : decode cL_law_ 1052 = .ok (.aload_n 0, 1) := by decide +kernel
theorem dL_law__1053 : decode cL_law_ 1053 = .ok (.iload 4, 2) := by decide +kernel
theorem dL_law__1055 : decode cL_law_ 1055 = .ok (.bipush 9, 2) := by decide +kernel
theorem dL_law__1057 : decode cL_law_ 1057 = .ok (.iadd, 1) := by decide +kernel
theorem dL_law__1058 : decode cL_law_ 1058 = .ok (.iaload, 1) := by decide +kernel
theorem dL_law__1059 : decode cL_law_ 1059 = .ok (.invokevirtual 177, 3) := by decide +kernel
theorem dL_law__1062 : decode cL_law_ 1062 = .ok (.istore 6, 2) := by decide +kernel
theorem dL_law__1064 : decode cL_law_ 1064 = .ok (.aload_n 2, 1) := by decide +kernel
theorem dL_law__1065 : decode cL_law_ 1065 = .ok (.invokevirtual 134, 3) := by decide +kernel
theorem dL_law__1068 : decode cL_law_ 1068 = .ok (.iload 5, 2) := by decide +kernel
theorem dL_law__1070 : decode cL_law_ 1070 = .ok (.if_icmp .eq 5, 3) := by decide +kernel
theorem dL_law__1073 : decode cL_law_ 1073 = .ok (.iconst 0, 1) := by decide +kernel
theorem dL_law__1074 : decode cL_law_ 1074 = .ok (.ireturn, 1) := by decide +kernel
theorem dL_law__1075 : decode cL_law_ 1075 = .ok (.iload 5, 2) := by decide +kernel
end Dec
