/** Promises 24 to 27. */
public final class AllTest {
    private static final Due due = new Due("AllTest");

    public static void main(String[] args) {
        promise24();
        promise25();
        promise26();
        promise27();
        tenFronds();
        due.end();
    }

    private static void promise24() {
        PressedFerns x = new PressedFerns();
        due.is("image() of nothing", x.image(), 0);
        Ferns.come(x, 0, "57");
        due.is("restore to nothing", x.restore(), 0);
        due.is("restore to nothing: about", x.about(0, 0), Ferns.UNKNOWN);
        Ferns.come(x, 0, "57");
        due.is("image()", x.image(), 2);
        x.snap(0, 1);
        due.is("image(): the latest", x.image(), 3);
        x.month(true);
        due.is("restore: the latest", x.restore(), 3);
        due.is("restore: leaflets", x.about(0, 1), 4);
    }

    private static void promise25() {
        PressedFerns x = Ferns.with(0, "9b8");
        due.is("restore: none was kept", x.restore(), Ferns.STATE);
        due.is("restore: none was kept, fronds", x.count(0), 2);
        x.debt(0, 1, 30);
        x.pay(0, 1);
        x.pay(1, 2);
        x.bank(1);
        x.month(true);
        x.image();
        long digest = x.digest();
        for (int round = 0; round < 2; round++) {
            x.fetch(1, 3);
            x.pay(1, 4);
            x.pay(0, 5);
            x.month(true);
            x.debt(4, 5, 6);
            x.debt(0, 1, 1);
            x.snap(0, 2);
            Ferns.come(x, 3, "99");
            x.june();
            Ferns.write(x, "b");
            due.holds("the digest changes", x.digest() != digest);
            due.is("restore()", x.restore(), 2);
            due.is("restore: the page stays", x.count(5), 1);
            x.blank();
            due.is("restore: all is as it was", x.digest(), digest);
            due.is("restore: owner", x.about(0, 2), 1);
            due.is("restore: at the bank", x.about(1, 2), Ferns.NONE);
            due.is("restore: tears", x.about(0, 4), 0);
            due.is("restore: no second tear", x.about(0, 5), Ferns.NONE);
            due.is("restore: lost by hands", x.count(2), 5);
            due.is("restore: lost by mould", x.count(3), 1);
            due.is("restore: owes(0, 1)", x.owes(0, 1), 22);
            due.is("restore: owes(4, 5)", x.owes(4, 5), 0);
            due.is("restore: those that came since", x.about(2, 0), Ferns.UNKNOWN);
        }
        Ferns.come(x, 5, "m3");
        due.is("restore: the next number", x.about(2, 0), 2);
        due.is("restore: no tears of one that is gone", x.about(2, 4), Ferns.NONE);
        goneOnes();
        PressedFerns tearful = Ferns.with(0, "1");
        tearful.image();
        Ferns.come(tearful, 0, "9");
        tearful.pay(1, 2);
        tearful.restore();
        Ferns.come(tearful, 0, "9");
        due.is("restore: a new frond has no tears", tearful.about(1, 4), Ferns.NONE);
    }

    /** Fronds that came since the image are in nothing that is told or done. */
    private static void goneOnes() {
        PressedFerns x = Ferns.with(0, "3");
        x.image();
        Ferns.come(x, 1, "999999999");
        for (int frond = 1; frond < 10; frond += 2) {
            x.bank(frond);
        }
        x.restore();
        due.is("gone: count(1)", x.count(1), 3);
        due.is("gone: count(4)", x.count(4), 0);
        due.is("gone: as", x.as(1, 0), Ferns.UNKNOWN);
        due.is("gone: least", x.least(1, 1, 0), Ferns.NONE);
        due.is("gone: month", x.month(true), 1);
        due.is("gone: june", x.june(), 0);
        x = Ferns.with(0, "3");
        x.image();
        Ferns.come(x, 1, "99");
        x.restore();
        due.is("gone, not banked: count(1)", x.count(1), 3);
        due.is("gone, not banked: june", x.june(), 0);
        due.is("gone, not banked: month", x.month(true), 1);
        due.is("gone, not banked: count(3)", x.count(3), 1);
        due.is("gone, not banked: least", x.least(1, 1, 0), Ferns.NONE);
    }

    private static void promise26() {
        PressedFerns x = Ferns.with(0, "9b8m7p9w6");
        x.pay(1, 2);
        x.bank(0);
        x.bank(4);
        x.month(true);
        x.debt(0, 1, 99);
        x.debt(1, 0, 98);
        x.debt(5, 4, 1);
        Ferns.write(x, "b7x");
        int[] due7 = {5, 31, 6, 2, 2, 3, 198};
        for (int what = 0; what <= 6; what++) {
            due.is("count(" + what + ")", x.count(what), due7[what]);
        }
        for (int what : new int[] {-1, 7, 8, Integer.MIN_VALUE, Integer.MAX_VALUE}) {
            due.is("count(" + what + ")", x.count(what), Ferns.OUTSIDE);
        }
        PressedFerns all = new PressedFerns();
        for (int a = 0; a < 6; a++) {
            for (int b = 0; b < 6; b++) {
                all.debt(a, b, 99);
            }
        }
        due.is("count(6) of all", all.count(6), 2970);
    }

    private static void promise27() {
        PressedFerns x = new PressedFerns();
        due.is("digest() of a new one", x.digest(), told(x, ""));
        Ferns.write(x, "b5m4p9w20b");
        due.is("digest() of a page", x.digest(), told(x, "b5m4p9w20b"));
        x.blank();
        Ferns.come(x, 3, "b5m4p9w209m7");
        due.is("digest() of fronds", x.digest(), told(x, ""));
        x.pay(2, 4);
        x.pay(0, 1);
        x.bank(5);
        x.month(true);
        x.debt(0, 2, 12);
        x.debt(2, 4, 20);
        x.debt(4, 0, 9);
        x.debt(5, 1, 33);
        Ferns.write(x, "~\u0001");
        due.is("digest() of all", x.digest(), told(x, "~\u0001"));
        due.is("digest() changes nothing", x.digest(), told(x, "~\u0001"));
        Ferns.write(x, "x");
        due.is("digest() of one letter more", x.digest(), told(x, "~\u0001x"));
    }

    /** Ten fronds: as many as there can be, in each call that looks at all. */
    private static void tenFronds() {
        PressedFerns x = Ferns.with(5, "9999999999");
        due.is("ten: count(1)", x.count(1), 90);
        due.is("ten: june", x.june(), 0);
        due.is("ten: month", x.month(true), 10);
        due.is("ten: bank the last", x.bank(9), 7);
        due.is("ten: month then", x.month(true), 9);
        due.is("ten: count(1) then", x.count(1), 70);
        due.is("ten: count(4)", x.count(4), 1);
        due.is("ten: least", x.least(5, 54, 1), 511);
        due.is("ten: months", x.months(1, 10, 0, 1), 1);
        due.is("ten: image", x.image(), 10);
        due.is("ten: digest", x.digest(), told(x, ""));
        due.is("ten: restore", x.restore(), 10);
        due.is("ten: digest then", x.digest(), told(x, ""));
    }

    /** What the document makes of the other calls' answers. */
    private static long told(PressedFerns x, String page) {
        long h = 661;
        for (int frond = 0; frond < x.count(0); frond++) {
            for (int what = 0; what <= 7; what++) {
                h = 31 * h + x.about(frond, what);
            }
            h = 31 * h + x.held(frond, 3, 5, 0);
            h = 31 * h + x.held(frond, 3, 5, 1);
        }
        for (int a = 0; a < 6; a++) {
            for (int b = 0; b < 6; b++) {
                if (b != a) {
                    h = 31 * h + x.owes(a, b);
                }
            }
        }
        for (int what : new int[] {0, 1, 10, 11, 12, 13, 14, 15}) {
            h = 31 * h + x.ring(what);
        }
        h = 31 * h + x.fewest();
        for (int person = 0; person < 6; person++) {
            h = 31 * h + x.least(person, 7, 0);
            h = 31 * h + x.least(person, 7, 1);
        }
        for (int i = 0; i < page.length(); i++) {
            h = 31 * h + page.charAt(i);
        }
        for (int what = 0; what <= 6; what++) {
            h = 31 * h + x.count(what);
        }
        return h;
    }
}
