theorem dLaw_1674g : (decode code 1674 = .ok (.pop, 1)) ∧ (decode code 1675 = .ok (.goto 329, 3)) ∧ (decode code 1678 = .ok (.aload_n 1, 1)) ∧ (decode code 1679 = .ok (.aload_n 0, 1)) ∧ (decode code 1680 = .ok (.iload_n 3, 1)) ∧ (decode code 1681 = .ok (.iconst 1, 1)) ∧ (decode code 1682 = .ok (.iadd, 1)) ∧ (decode code 1683 = .ok (.iaload, 1)) ∧ (decode code 1684 = .ok (.aload_n 0, 1)) ∧ (decode code 1685 = .ok (.iload_n 3, 1)) := by decide +kernel
theorem dLaw_1674 : decode code 1674 = .ok (.pop, 1) := dLaw_1674g.1
theorem dLaw_1675 : decode code 1675 = .ok (.goto 329, 3) := dLaw_1674g.2.1
theorem dLaw_1678 : decode code 1678 = .ok (.aload_n 1, 1) := dLaw_1674g.2.2.1
theorem dLaw_1679 : decode code 1679 = .ok (.aload_n 0, 1) := dLaw_1674g.2.2.2.1
theorem dLaw_1680 : decode code 1680 = .ok (.iload_n 3, 1) := dLaw_1674g.2.2.2.2.1
theorem dLaw_1681 : decode code 1681 = .ok (.iconst 1, 1) := dLaw_1674g.2.2.2.2.2.1
theorem dLaw_1682 : decode code 1682 = .ok (.iadd, 1) := dLaw_1674g.2.2.2.2.2.2.1
theorem dLaw_1683 : decode code 1683 = .ok (.iaload, 1) := dLaw_1674g.2.2.2.2.2.2.2.1
theorem dLaw_1684 : decode code 1684 = .ok (.aload_n 0, 1) := dLaw_1674g.2.2.2.2.2.2.2.2.1
theorem dLaw_1685 : decode code 1685 = .ok (.iload_n 3, 1) := dLaw_1674g.2.2.2.2.2.2.2.2.2
theorem dLaw_1686g : (decode code 1686 = .ok (.iconst 2, 1)) ∧ (decode code 1687 = .ok (.iadd, 1)) ∧ (decode code 1688 = .ok (.iaload, 1)) ∧ (decode code 1689 = .ok (.aload_n 0, 1)) ∧ (decode code 1690 = .ok (.iload_n 3, 1)) ∧ (decode code 1691 = .ok (.iconst 3, 1)) ∧ (decode code 1692 = .ok (.iadd, 1)) ∧ (decode code 1693 = .ok (.iaload, 1)) ∧ (decode code 1694 = .ok (.aload_n 0, 1)) ∧ (decode code 1695 = .ok (.iload_n 3, 1)) := by decide +kernel
theorem dLaw_1686 : decode code 1686 = .ok (.iconst 2, 1) := dLaw_1686g.1
theorem dLaw_1687 : decode code 1687 = .ok (.iadd, 1) := dLaw_1686g.2.1
theorem dLaw_1688 : decode code 1688 = .ok (.iaload, 1) := dLaw_1686g.2.2.1
theorem dLaw_1689 : decode code 1689 = .ok (.aload_n 0, 1) := dLaw_1686g.2.2.2.1
theorem dLaw_1690 : decode code 1690 = .ok (.iload_n 3, 1) := dLaw_1686g.2.2.2.2.1
theorem dLaw_1691 : decode code 1691 = .ok (.iconst 3, 1) := dLaw_1686g.2.2.2.2.2.1
theorem dLaw_1692 : decode code 1692 = .ok (.iadd, 1) := dLaw_1686g.2.2.2.2.2.2.1
theorem dLaw_1693 : decode code 1693 = .ok (.iaload, 1) := dLaw_1686g.2.2.2.2.2.2.2.1
theorem dLaw_1694 : decode code 1694 = .ok (.aload_n 0, 1) := dLaw_1686g.2.2.2.2.2.2.2.2.1
theorem dLaw_1695 : decode code 1695 = .ok (.iload_n 3, 1) := dLaw_1686g.2.2.2.2.2.2.2.2.2
theorem dLaw_1696g : (decode code 1696 = .ok (.iconst 4, 1)) ∧ (decode code 1697 = .ok (.iadd, 1)) ∧ (decode code 1698 = .ok (.iaload, 1)) ∧ (decode code 1699 = .ok (.invokevirtual 180, 3)) ∧ (decode code 1702 = .ok (.pop, 1)) ∧ (decode code 1703 = .ok (.aload_n 2, 1)) ∧ (decode code 1704 = .ok (.aload_n 0, 1)) ∧ (decode code 1705 = .ok (.iload_n 3, 1)) ∧ (decode code 1706 = .ok (.iconst 1, 1)) ∧ (decode code 1707 = .ok (.iadd, 1)) := by decide +kernel
theorem dLaw_1696 : decode code 1696 = .ok (.iconst 4, 1) := dLaw_1696g.1
theorem dLaw_1697 : decode code 1697 = .ok (.iadd, 1) := dLaw_1696g.2.1
theorem dLaw_1698 : decode code 1698 = .ok (.iaload, 1) := dLaw_1696g.2.2.1
theorem dLaw_1699 : decode code 1699 = .ok (.invokevirtual 180, 3) := dLaw_1696g.2.2.2.1
theorem dLaw_1702 : decode code 1702 = .ok (.pop, 1) := dLaw_1696g.2.2.2.2.1
theorem dLaw_1703 : decode code 1703 = .ok (.aload_n 2, 1) := dLaw_1696g.2.2.2.2.2.1
theorem dLaw_1704 : decode code 1704 = .ok (.aload_n 0, 1) := dLaw_1696g.2.2.2.2.2.2.1
theorem dLaw_1705 : decode code 1705 = .ok (.iload_n 3, 1) := dLaw_1696g.2.2.2.2.2.2.2.1
theorem dLaw_1706 : decode code 1706 = .ok (.iconst 1, 1) := dLaw_1696g.2.2.2.2.2.2.2.2.1
theorem dLaw_1707 : decode code 1707 = .ok (.iadd, 1) := dLaw_1696g.2.2.2.2.2.2.2.2.2
theorem dLaw_1708g : (decode code 1708 = .ok (.iaload, 1)) ∧ (decode code 1709 = .ok (.aload_n 0, 1)) ∧ (decode code 1710 = .ok (.iload_n 3, 1)) ∧ (decode code 1711 = .ok (.iconst 2, 1)) ∧ (decode code 1712 = .ok (.iadd, 1)) ∧ (decode code 1713 = .ok (.iaload, 1)) ∧ (decode code 1714 = .ok (.aload_n 0, 1)) ∧ (decode code 1715 = .ok (.iload_n 3, 1)) ∧ (decode code 1716 = .ok (.iconst 3, 1)) ∧ (decode code 1717 = .ok (.iadd, 1)) := by decide +kernel
theorem dLaw_1708 : decode code 1708 = .ok (.iaload, 1) := dLaw_1708g.1
theorem dLaw_1709 : decode code 1709 = .ok (.aload_n 0, 1) := dLaw_1708g.2.1
theorem dLaw_1710 : decode code 1710 = .ok (.iload_n 3, 1) := dLaw_1708g.2.2.1
theorem dLaw_1711 : decode code 1711 = .ok (.iconst 2, 1) := dLaw_1708g.2.2.2.1
theorem dLaw_1712 : decode code 1712 = .ok (.iadd, 1) := dLaw_1708g.2.2.2.2.1
theorem dLaw_1713 : decode code 1713 = .ok (.iaload, 1) := dLaw_1708g.2.2.2.2.2.1
theorem dLaw_1714 : decode code 1714 = .ok (.aload_n 0, 1) := dLaw_1708g.2.2.2.2.2.2.1
theorem dLaw_1715 : decode code 1715 = .ok (.iload_n 3, 1) := dLaw_1708g.2.2.2.2.2.2.2.1
theorem dLaw_1716 : decode code 1716 = .ok (.iconst 3, 1) := dLaw_1708g.2.2.2.2.2.2.2.2.1
theorem dLaw_1717 : decode code 1717 = .ok (.iadd, 1) := dLaw_1708g.2.2.2.2.2.2.2.2.2
theorem dLaw_1718g : (decode code 1718 = .ok (.iaload, 1)) ∧ (decode code 1719 = .ok (.aload_n 0, 1)) ∧ (decode code 1720 = .ok (.iload_n 3, 1)) ∧ (decode code 1721 = .ok (.iconst 4, 1)) ∧ (decode code 1722 = .ok (.iadd, 1)) ∧ (decode code 1723 = .ok (.iaload, 1)) ∧ (decode code 1724 = .ok (.invokevirtual 183, 3)) ∧ (decode code 1727 = .ok (.pop, 1)) ∧ (decode code 1728 = .ok (.goto 276, 3)) ∧ (decode code 1731 = .ok (.aload_n 1, 1)) := by decide +kernel
theorem dLaw_1718 : decode code 1718 = .ok (.iaload, 1) := dLaw_1718g.1
theorem dLaw_1719 : decode code 1719 = .ok (.aload_n 0, 1) := dLaw_1718g.2.1
theorem dLaw_1720 : decode code 1720 = .ok (.iload_n 3, 1) := dLaw_1718g.2.2.1
theorem dLaw_1721 : decode code 1721 = .ok (.iconst 4, 1) := dLaw_1718g.2.2.2.1
theorem dLaw_1722 : decode code 1722 = .ok (.iadd, 1) := dLaw_1718g.2.2.2.2.1
theorem dLaw_1723 : decode code 1723 = .ok (.iaload, 1) := dLaw_1718g.2.2.2.2.2.1
theorem dLaw_1724 : decode code 1724 = .ok (.invokevirtual 183, 3) := dLaw_1718g.2.2.2.2.2.2.1
theorem dLaw_1727 : decode code 1727 = .ok (.pop, 1) := dLaw_1718g.2.2.2.2.2.2.2.1
theorem dLaw_1728 : decode code 1728 = .ok (.goto 276, 3) := dLaw_1718g.2.2.2.2.2.2.2.2.1
theorem dLaw_1731 : decode code 1731 = .ok (.aload_n 1, 1) := dLaw_1718g.2.2.2.2.2.2.2.2.2
theorem dLaw_1732g : (decode code 1732 = .ok (.aload_n 0, 1)) ∧ (decode code 1733 = .ok (.iload_n 3, 1)) ∧ (decode code 1734 = .ok (.iconst 1, 1)) ∧ (decode code 1735 = .ok (.iadd, 1)) ∧ (decode code 1736 = .ok (.iaload, 1)) ∧ (decode code 1737 = .ok (.aload_n 0, 1)) ∧ (decode code 1738 = .ok (.iload_n 3, 1)) ∧ (decode code 1739 = .ok (.iconst 2, 1)) ∧ (decode code 1740 = .ok (.iadd, 1)) ∧ (decode code 1741 = .ok (.iaload, 1)) := by decide +kernel
theorem dLaw_1732 : decode code 1732 = .ok (.aload_n 0, 1) := dLaw_1732g.1
theorem dLaw_1733 : decode code 1733 = .ok (.iload_n 3, 1) := dLaw_1732g.2.1
theorem dLaw_1734 : decode code 1734 = .ok (.iconst 1, 1) := dLaw_1732g.2.2.1
theorem dLaw_1735 : decode code 1735 = .ok (.iadd, 1) := dLaw_1732g.2.2.2.1
theorem dLaw_1736 : decode code 1736 = .ok (.iaload, 1) := dLaw_1732g.2.2.2.2.1
theorem dLaw_1737 : decode code 1737 = .ok (.aload_n 0, 1) := dLaw_1732g.2.2.2.2.2.1
theorem dLaw_1738 : decode code 1738 = .ok (.iload_n 3, 1) := dLaw_1732g.2.2.2.2.2.2.1
theorem dLaw_1739 : decode code 1739 = .ok (.iconst 2, 1) := dLaw_1732g.2.2.2.2.2.2.2.1
theorem dLaw_1740 : decode code 1740 = .ok (.iadd, 1) := dLaw_1732g.2.2.2.2.2.2.2.2.1
theorem dLaw_1741 : decode code 1741 = .ok (.iaload, 1) := dLaw_1732g.2.2.2.2.2.2.2.2.2
theorem dLaw_1742g : (decode code 1742 = .ok (.aload_n 0, 1)) ∧ (decode code 1743 = .ok (.iload_n 3, 1)) ∧ (decode code 1744 = .ok (.iconst 3, 1)) ∧ (decode code 1745 = .ok (.iadd, 1)) ∧ (decode code 1746 = .ok (.iaload, 1)) ∧ (decode code 1747 = .ok (.aload_n 0, 1)) ∧ (decode code 1748 = .ok (.iload_n 3, 1)) ∧ (decode code 1749 = .ok (.iconst 4, 1)) ∧ (decode code 1750 = .ok (.iadd, 1)) ∧ (decode code 1751 = .ok (.iaload, 1)) := by decide +kernel
theorem dLaw_1742 : decode code 1742 = .ok (.aload_n 0, 1) := dLaw_1742g.1
theorem dLaw_1743 : decode code 1743 = .ok (.iload_n 3, 1) := dLaw_1742g.2.1
theorem dLaw_1744 : decode code 1744 = .ok (.iconst 3, 1) := dLaw_1742g.2.2.1
theorem dLaw_1745 : decode code 1745 = .ok (.iadd, 1) := dLaw_1742g.2.2.2.1
theorem dLaw_1746 : decode code 1746 = .ok (.iaload, 1) := dLaw_1742g.2.2.2.2.1
theorem dLaw_1747 : decode code 1747 = .ok (.aload_n 0, 1) := dLaw_1742g.2.2.2.2.2.1
theorem dLaw_1748 : decode code 1748 = .ok (.iload_n 3, 1) := dLaw_1742g.2.2.2.2.2.2.1
theorem dLaw_1749 : decode code 1749 = .ok (.iconst 4, 1) := dLaw_1742g.2.2.2.2.2.2.2.1
theorem dLaw_1750 : decode code 1750 = .ok (.iadd, 1) := dLaw_1742g.2.2.2.2.2.2.2.2.1
theorem dLaw_1751 : decode code 1751 = .ok (.iaload, 1) := dLaw_1742g.2.2.2.2.2.2.2.2.2
theorem dLaw_1752g : (decode code 1752 = .ok (.invokevirtual 184, 3)) ∧ (decode code 1755 = .ok (.pop, 1)) ∧ (decode code 1756 = .ok (.aload_n 2, 1)) ∧ (decode code 1757 = .ok (.aload_n 0, 1)) ∧ (decode code 1758 = .ok (.iload_n 3, 1)) ∧ (decode code 1759 = .ok (.iconst 1, 1)) ∧ (decode code 1760 = .ok (.iadd, 1)) ∧ (decode code 1761 = .ok (.iaload, 1)) ∧ (decode code 1762 = .ok (.aload_n 0, 1)) ∧ (decode code 1763 = .ok (.iload_n 3, 1)) := by decide +kernel
theorem dLaw_1752 : decode code 1752 = .ok (.invokevirtual 184, 3) := dLaw_1752g.1
theorem dLaw_1755 : decode code 1755 = .ok (.pop, 1) := dLaw_1752g.2.1
theorem dLaw_1756 : decode code 1756 = .ok (.aload_n 2, 1) := dLaw_1752g.2.2.1
theorem dLaw_1757 : decode code 1757 = .ok (.aload_n 0, 1) := dLaw_1752g.2.2.2.1
theorem dLaw_1758 : decode code 1758 = .ok (.iload_n 3, 1) := dLaw_1752g.2.2.2.2.1
theorem dLaw_1759 : decode code 1759 = .ok (.iconst 1, 1) := dLaw_1752g.2.2.2.2.2.1
theorem dLaw_1760 : decode code 1760 = .ok (.iadd, 1) := dLaw_1752g.2.2.2.2.2.2.1
theorem dLaw_1761 : decode code 1761 = .ok (.iaload, 1) := dLaw_1752g.2.2.2.2.2.2.2.1
theorem dLaw_1762 : decode code 1762 = .ok (.aload_n 0, 1) := dLaw_1752g.2.2.2.2.2.2.2.2.1
theorem dLaw_1763 : decode code 1763 = .ok (.iload_n 3, 1) := dLaw_1752g.2.2.2.2.2.2.2.2.2
theorem dLaw_1764g : (decode code 1764 = .ok (.iconst 2, 1)) ∧ (decode code 1765 = .ok (.iadd, 1)) ∧ (decode code 1766 = .ok (.iaload, 1)) ∧ (decode code 1767 = .ok (.aload_n 0, 1)) ∧ (decode code 1768 = .ok (.iload_n 3, 1)) ∧ (decode code 1769 = .ok (.iconst 3, 1)) ∧ (decode code 1770 = .ok (.iadd, 1)) ∧ (decode code 1771 = .ok (.iaload, 1)) ∧ (decode code 1772 = .ok (.aload_n 0, 1)) ∧ (decode code 1773 = .ok (.iload_n 3, 1)) := by decide +kernel
theorem dLaw_1764 : decode code 1764 = .ok (.iconst 2, 1) := dLaw_1764g.1
theorem dLaw_1765 : decode code 1765 = .ok (.iadd, 1) := dLaw_1764g.2.1
theorem dLaw_1766 : decode code 1766 = .ok (.iaload, 1) := dLaw_1764g.2.2.1
theorem dLaw_1767 : decode code 1767 = .ok (.aload_n 0, 1) := dLaw_1764g.2.2.2.1
theorem dLaw_1768 : decode code 1768 = .ok (.iload_n 3, 1) := dLaw_1764g.2.2.2.2.1
theorem dLaw_1769 : decode code 1769 = .ok (.iconst 3, 1) := dLaw_1764g.2.2.2.2.2.1
theorem dLaw_1770 : decode code 1770 = .ok (.iadd, 1) := dLaw_1764g.2.2.2.2.2.2.1
theorem dLaw_1771 : decode code 1771 = .ok (.iaload, 1) := dLaw_1764g.2.2.2.2.2.2.2.1
theorem dLaw_1772 : decode code 1772 = .ok (.aload_n 0, 1) := dLaw_1764g.2.2.2.2.2.2.2.2.1
theorem dLaw_1773 : decode code 1773 = .ok (.iload_n 3, 1) := dLaw_1764g.2.2.2.2.2.2.2.2.2
theorem dLaw_1774g : (decode code 1774 = .ok (.iconst 4, 1)) ∧ (decode code 1775 = .ok (.iadd, 1)) ∧ (decode code 1776 = .ok (.iaload, 1)) ∧ (decode code 1777 = .ok (.invokevirtual 187, 3)) ∧ (decode code 1780 = .ok (.pop, 1)) ∧ (decode code 1781 = .ok (.goto 223, 3)) ∧ (decode code 1784 = .ok (.aload_n 1, 1)) ∧ (decode code 1785 = .ok (.invokevirtual 188, 3)) ∧ (decode code 1788 = .ok (.pop, 1)) ∧ (decode code 1789 = .ok (.aload_n 2, 1)) := by decide +kernel
theorem dLaw_1774 : decode code 1774 = .ok (.iconst 4, 1) := dLaw_1774g.1
theorem dLaw_1775 : decode code 1775 = .ok (.iadd, 1) := dLaw_1774g.2.1
theorem dLaw_1776 : decode code 1776 = .ok (.iaload, 1) := dLaw_1774g.2.2.1
theorem dLaw_1777 : decode code 1777 = .ok (.invokevirtual 187, 3) := dLaw_1774g.2.2.2.1
theorem dLaw_1780 : decode code 1780 = .ok (.pop, 1) := dLaw_1774g.2.2.2.2.1
theorem dLaw_1781 : decode code 1781 = .ok (.goto 223, 3) := dLaw_1774g.2.2.2.2.2.1
theorem dLaw_1784 : decode code 1784 = .ok (.aload_n 1, 1) := dLaw_1774g.2.2.2.2.2.2.1
theorem dLaw_1785 : decode code 1785 = .ok (.invokevirtual 188, 3) := dLaw_1774g.2.2.2.2.2.2.2.1
theorem dLaw_1788 : decode code 1788 = .ok (.pop, 1) := dLaw_1774g.2.2.2.2.2.2.2.2.1
theorem dLaw_1789 : decode code 1789 = .ok (.aload_n 2, 1) := dLaw_1774g.2.2.2.2.2.2.2.2.2
