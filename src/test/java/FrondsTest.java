/** Promises 1 to 8. */
public final class FrondsTest {
    private static final Due due = new Due("FrondsTest");

    public static void main(String[] args) {
        constants();
        promise1();
        promise2();
        promise3();
        promise4();
        promise5();
        promise6();
        promise6Tears();
        promise7();
        promise8();
        due.end();
    }

    private static void constants() {
        due.is("NONE", PressedFerns.NONE, -1);
        due.is("UNKNOWN", PressedFerns.UNKNOWN, -101);
        due.is("OUTSIDE", PressedFerns.OUTSIDE, -102);
        due.is("STATE", PressedFerns.STATE, -103);
        due.is("FULL", PressedFerns.FULL, -104);
    }

    private static void promise1() {
        PressedFerns x = new PressedFerns();
        for (int what = 0; what <= 6; what++) {
            due.is("new: count(" + what + ")", x.count(what), 0);
        }
        for (int a = 0; a < 6; a++) {
            for (int b = 0; b < 6; b++) {
                due.is("new: owes(" + a + ", " + b + ")", x.owes(a, b), a == b ? Ferns.UNKNOWN : 0);
            }
        }
        due.is("new: about(0, 0)", x.about(0, 0), Ferns.UNKNOWN);
        due.is("new: ring(0)", x.ring(0), 0);
        due.is("new: restore()", x.restore(), Ferns.STATE);
        due.is("new: fault()", x.fault(), 0);
        PressedFerns other = Ferns.with(1, "b5");
        other.debt(0, 1, 5);
        due.is("new beside another one: count(0)", x.count(0), 0);
        due.is("new beside another one: owes(0, 1)", x.owes(0, 1), 0);
    }

    private static void promise2() {
        PressedFerns x = new PressedFerns();
        due.is("letters(0)", x.letters(0), 0);
        due.is("letters: b5", x.letters('b' | '5' << 8), 2);
        due.is("letters: eight", x.letters(Ferns.coded("12345678")), 10);
        due.is("letters: 127", x.letters(127), Ferns.OUTSIDE);
        due.is("letters: 1, 127", x.letters(1 | 127 << 8), Ferns.OUTSIDE);
        due.is("letters: 128", x.letters(128), Ferns.OUTSIDE);
        due.is("letters: 255", x.letters(255), Ferns.OUTSIDE);
        due.is("letters(-1)", x.letters(-1), Ferns.OUTSIDE);
        due.is("letters(MIN_VALUE)", x.letters(Long.MIN_VALUE), Ferns.OUTSIDE);
        due.is("letters(MAX_VALUE)", x.letters(Long.MAX_VALUE), Ferns.OUTSIDE);
        due.is("letters: one behind a 0", x.letters(65 << 8), Ferns.OUTSIDE);
        due.is("letters: one far behind a 0", x.letters(65L << 56 | 65), Ferns.OUTSIDE);
        due.is("letters: refused ones stay out", x.count(5), 10);
        due.is("letters: 126", x.letters(126), 11);
        due.is("letters: 1", x.letters(1), 12);
        due.is("letters: eight more", x.letters(Ferns.coded("abcdefgh")), 20);
        due.is("letters: three too many", x.letters(Ferns.coded("abc")), Ferns.FULL);
        due.is("letters: none of them came", x.count(5), 20);
        due.is("letters: two to 22", x.letters(Ferns.coded("ab")), 22);
        due.is("letters: none on a full page", x.letters(0), 22);
        due.is("letters: the 23rd", x.letters(65), Ferns.FULL);
        due.is("letters: OUTSIDE ahead of FULL", x.letters(127), Ferns.OUTSIDE);
        due.is("letters: OUTSIDE behind a 0 ahead of FULL", x.letters(1 << 16 | 1), Ferns.OUTSIDE);
        due.is("letters: 22 stay", x.count(5), 22);
        promise2Order();
    }

    private static void promise2Order() {
        PressedFerns x = new PressedFerns();
        x.letters(Ferns.coded("1w"));
        x.letters(Ferns.coded("2m3"));
        due.is("letters come behind: book", x.book(0), 3);
        due.is("letters come behind: about(0, 1)", x.about(0, 1), 1);
        due.is("letters come behind: about(1, 0)", x.about(1, 0), 4);
        due.is("letters come behind: about(1, 1)", x.about(1, 1), 2);
        due.is("letters come behind: about(2, 0)", x.about(2, 0), 2);
        due.is("letters come behind: about(2, 1)", x.about(2, 1), 3);
    }

    private static void promise3() {
        PressedFerns x = new PressedFerns();
        due.is("blank() of an empty one", x.blank(), 0);
        Ferns.write(x, "b5m");
        due.is("blank()", x.blank(), 3);
        due.is("blank() again", x.blank(), 0);
        due.is("blank: count(5)", x.count(5), 0);
        Ferns.write(x, "7");
        due.is("blank: what came since", x.book(0), 1);
        due.is("blank: about(0, 0)", x.about(0, 0), 0);
        due.is("blank: about(0, 1)", x.about(0, 1), 7);
    }

    private static void promise4() {
        fault("", 0);
        fault("5", 1);
        fault("b", 1);
        fault("b5", 2);
        fault("bb", 1);
        fault("bm5", 1);
        fault("b5mp", 3);
        fault("x", 0);
        fault("B5", 0);
        fault("5 5", 1);
        fault("/", 0);
        fault(":", 0);
        fault("0", 1);
        fault("9", 1);
        fault("bx5", 1);
        fault("b5m4p3w2", 8);
        fault("a1", 0);
        fault("c1", 0);
        fault("l1", 0);
        fault("n1", 0);
        fault("o1", 0);
        fault("q1", 0);
        fault("v1", 0);
        fault("y1", 0);
        fault("1234567890", 10);
        fault("12345678901", 10);
        fault("1234567890b", 10);
        fault("123456789b", 10);
        fault("b1b2b3b4b5b6b7b8b9b0", 20);
        fault("b1b2b3b4b5b6b7b8b9b0b", 20);
        fault("b1b2b3b4b5b6b7b8b9b01x", 20);
        fault("b1b2b3b4b5b6b7b8b9bxb1", 19);
        PressedFerns full = Ferns.with(0, "1234567890");
        Ferns.write(full, "b5");
        due.is("fault: fronds that are there do not count", full.fault(), 2);
        due.is("fault: the page stays", full.count(5), 2);
    }

    private static void fault(String text, int place) {
        PressedFerns x = new PressedFerns();
        Ferns.write(x, text);
        due.is("fault of '" + text + "'", x.fault(), place);
    }

    private static void promise5() {
        PressedFerns x = new PressedFerns();
        due.is("book of an empty page", x.book(0), Ferns.STATE);
        Ferns.write(x, "b5m4p9w20");
        due.is("book", x.book(5), 5);
        due.is("book: the page is empty", x.count(5), 0);
        due.is("book again", x.book(5), Ferns.STATE);
        int[] kinds = {1, 2, 3, 4, 0};
        int[] leaflets = {5, 4, 9, 2, 0};
        for (int i = 0; i < 5; i++) {
            due.is("book: kind of " + i, x.about(i, 0), kinds[i]);
            due.is("book: leaflets of " + i, x.about(i, 1), leaflets[i]);
            due.is("book: owner of " + i, x.about(i, 2), 5);
            due.is("book: tears of " + i, x.about(i, 4), Ferns.NONE);
        }
        String[] none = {"b", "5b", "x", "bb5", "5x", "b5m", "12345678901"};
        for (String text : none) {
            x = Ferns.with(1, "3");
            Ferns.write(x, text);
            for (int person : Ferns.NO_PERSON) {
                due.is("book(" + person + ") of '" + text + "'", x.book(person), Ferns.UNKNOWN);
            }
            due.is("book of '" + text + "'", x.book(0), Ferns.STATE);
            due.is("book of '" + text + "': the page stays", x.count(5), text.length());
            due.is("book of '" + text + "': no fronds", x.count(0), 1);
        }
        promise5Full();
    }

    private static void promise5Full() {
        PressedFerns x = Ferns.with(0, "1234567");
        Ferns.write(x, "4444");
        due.is("book: eleven", x.book(0), Ferns.FULL);
        due.is("book: eleven, the page stays", x.count(5), 4);
        due.is("book: eleven, none came", x.count(0), 7);
        due.is("book: UNKNOWN ahead of FULL", x.book(6), Ferns.UNKNOWN);
        Ferns.write(x, "b");
        due.is("book: STATE ahead of FULL", x.book(0), Ferns.STATE);
        x.blank();
        Ferns.write(x, "b4b4b4");
        due.is("book: ten", x.book(0), 3);
        Ferns.write(x, "1");
        due.is("book: the eleventh", x.book(0), Ferns.FULL);
        x = new PressedFerns();
        due.is("book: ten of kinds", Ferns.come(x, 4, "b1b2b3b4b5b6b7b8b9b0"), 10);
        due.is("book: ten of kinds, the last", x.about(9, 1), 0);
        due.is("book: ten of kinds, its owner", x.about(9, 2), 4);
    }

    private static void promise6() {
        PressedFerns x = Ferns.with(3, "5b7");
        for (int frond : new int[] {-1, 2, 10, Integer.MIN_VALUE, Integer.MAX_VALUE}) {
            due.is("about(" + frond + ", 0)", x.about(frond, 0), Ferns.UNKNOWN);
            due.is("about(" + frond + ", 8)", x.about(frond, 8), Ferns.UNKNOWN);
        }
        for (int what : new int[] {-1, 8, 9, Integer.MIN_VALUE, Integer.MAX_VALUE}) {
            due.is("about(1, " + what + ")", x.about(1, what), Ferns.OUTSIDE);
        }
        due.is("about: owner", x.about(1, 2), 3);
        x.bank(1);
        due.is("about: at the bank", x.about(1, 2), Ferns.NONE);
        due.is("about: leaflets at the bank", x.about(1, 1), 5);
        due.is("about: behind a hand, at the bank", x.about(1, 3), 3);
        promise6BehindHand();
    }

    private static void promise6BehindHand() {
        String[] kinds = {"", "b", "m", "p", "w"};
        int[][] behind = {
            {0, 0, 1, 2, 3, 4, 5, 6, 7, 8},
            {0, 0, 0, 1, 2, 3, 4, 5, 6, 7},
            {0, 0, 1, 2, 3, 4, 6, 7, 8, 9},
            {0, 0, 1, 2, 3, 4, 5, 6, 7, 9},
            {0, 0, 0, 0, 1, 2, 3, 4, 5, 6},
        };
        for (int kind = 0; kind < kinds.length; kind++) {
            for (int leaflets = 0; leaflets <= 9; leaflets++) {
                PressedFerns x = Ferns.with(2, kinds[kind] + leaflets);
                String of = " of '" + kinds[kind] + leaflets + "'";
                due.is("about 0" + of, x.about(0, 0), kind);
                due.is("about 1" + of, x.about(0, 1), leaflets);
                due.is("about 3" + of, x.about(0, 3), behind[kind][leaflets]);
                due.is("pay" + of, x.pay(0, 1), behind[kind][leaflets]);
                due.is("about 1 behind pay" + of, x.about(0, 1), behind[kind][leaflets]);
                due.is("count(2) behind pay" + of, x.count(2), leaflets - behind[kind][leaflets]);
            }
        }
    }

    private static void promise6Tears() {
        PressedFerns x = Ferns.with(0, "93");
        tears(x, 0, -1, -1, -1, -1);
        x.pay(0, 1);
        tears(x, 0, 0, -1, -1, -1);
        x.pay(0, 2);
        tears(x, 0, 1, 0, -1, -1);
        x.bank(0);
        tears(x, 0, 2, 1, 0, -1);
        x.fetch(0, 5);
        tears(x, 0, 2, 1, 0, -1);
        x.pay(0, 3);
        tears(x, 0, 5, 2, 1, 0);
        x.pay(0, 4);
        tears(x, 0, 3, 5, 2, 1);
        tears(x, 1, -1, -1, -1, -1);
        x.pay(1, 4);
        tears(x, 0, 3, 5, 2, 1);
        tears(x, 1, 0, -1, -1, -1);
    }

    private static void tears(PressedFerns x, int frond, int... people) {
        for (int i = 0; i < people.length; i++) {
            due.is("tear " + i + " of " + frond, x.about(frond, 4 + i), people[i]);
        }
    }

    private static void promise7() {
        PressedFerns x = Ferns.with(0, "1b2m3p4w5");
        for (int frond = 0; frond < 5; frond++) {
            for (int kind = 0; kind < 5; kind++) {
                boolean isSuch = kind == 0 || kind == frond || (kind == 1 && frond == 4);
                due.is("as(" + frond + ", " + kind + ")", x.as(frond, kind), isSuch ? frond : Ferns.NONE);
            }
            for (int kind : new int[] {-1, 5, Integer.MIN_VALUE, Integer.MAX_VALUE}) {
                due.is("as(" + frond + ", " + kind + ")", x.as(frond, kind), Ferns.OUTSIDE);
            }
        }
        for (int frond : new int[] {-1, 5, Integer.MIN_VALUE, Integer.MAX_VALUE}) {
            due.is("as(" + frond + ", 0)", x.as(frond, 0), Ferns.UNKNOWN);
            due.is("as(" + frond + ", 5)", x.as(frond, 5), Ferns.UNKNOWN);
        }
    }

    private static void promise8() {
        PressedFerns x = Ferns.with(0, "m9w3");
        x.pay(0, 4);
        due.is("snap(0, 8)", x.snap(0, 8), 2);
        due.is("snap: leaflets left", x.about(0, 1), 1);
        due.is("snap: kind stays", x.about(0, 0), 2);
        due.is("snap: tears stay", x.about(0, 4), 0);
        due.is("snap: new kind", x.about(2, 0), 0);
        due.is("snap: new leaflets", x.about(2, 1), 8);
        due.is("snap: new owner", x.about(2, 2), 4);
        for (int what = 4; what <= 7; what++) {
            due.is("snap: new tear " + what, x.about(2, what), Ferns.NONE);
        }
        due.is("snap: nothing is lost by hands", x.count(2), 0);
        due.is("snap: all together", x.count(1), 12);
        for (int leaflets : new int[] {0, 9, -1, Integer.MIN_VALUE, Integer.MAX_VALUE}) {
            due.is("snap(1, " + leaflets + ")", x.snap(1, leaflets), Ferns.OUTSIDE);
            due.is("snap(3, " + leaflets + ")", x.snap(3, leaflets), Ferns.UNKNOWN);
            due.is("snap(-1, " + leaflets + ")", x.snap(-1, leaflets), Ferns.UNKNOWN);
        }
        due.is("snap: as many as it has", x.snap(1, 3), Ferns.STATE);
        due.is("snap: more than it has", x.snap(1, 8), Ferns.STATE);
        due.is("snap: one fewer than it has", x.snap(1, 2), 3);
        x.bank(2);
        due.is("snap: at the bank", x.snap(2, 1), Ferns.STATE);
        due.is("snap: OUTSIDE ahead of STATE", x.snap(2, 9), Ferns.OUTSIDE);
        promise8Full();
    }

    private static void promise8Full() {
        PressedFerns x = Ferns.with(0, "222222229");
        due.is("snap: the tenth", x.snap(8, 1), 9);
        due.is("snap: the eleventh", x.snap(8, 1), Ferns.FULL);
        due.is("snap: FULL changes nothing", x.about(8, 1), 8);
        due.is("snap: STATE ahead of FULL", x.snap(0, 2), Ferns.STATE);
        due.is("snap: OUTSIDE ahead of FULL", x.snap(0, 0), Ferns.OUTSIDE);
        for (int frond : Ferns.NO_FROND_OF_TEN) {
            due.is("snap(" + frond + ", 1) of ten", x.snap(frond, 1), Ferns.UNKNOWN);
        }
        due.is("snap: ten stay", x.count(0), 10);
    }
}
