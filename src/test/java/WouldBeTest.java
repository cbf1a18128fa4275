/** Promises 16 to 23. */
public final class WouldBeTest {
    private static final Due due = new Due("WouldBeTest");

    public static void main(String[] args) {
        promise16();
        promise16Refusals();
        promise17();
        promise17Refusals();
        promise18();
        promise19();
        promise20();
        promise20Refusals();
        promise21();
        promise22();
        promise22Orders();
        promise22Refusals();
        promise23();
        promise23Draws();
        promise23Refusals();
        due.end();
    }

    private static void least(String book, int sum, int worth, int bits) {
        PressedFerns x = Ferns.with(2, book);
        due.is("least(2, " + sum + ", 0) of " + book, x.least(2, sum, 0), worth);
        due.is("least(2, " + sum + ", 1) of " + book, x.least(2, sum, 1), bits);
    }

    private static void promise16() {
        least("5", 4, 5, 1);
        least("5", 5, Ferns.NONE, Ferns.NONE);
        least("p9", 9, 9, 1);
        least("97", 7, 9, 1);
        least("976", 7, 9, 1);
        least("99", 1, 9, 1);
        least("w9m9", 6, 9, 1);
        least("b9m9", 8, 9, 2);
        // Three of 3 are worth 9 now and 6 behind a hand each; 9 alone is worth 8: fewest.
        least("3339", 6, 9, 8);
        least("m6333", 6, 6, 1);
        // What is worth nothing more is left out.
        least("0005", 3, 5, 8);
        least("5551", 8, 10, 3);
        least("46555", 8, 10, 3);
        least("64555", 8, 10, 3);
        least("5564", 8, 10, 3);
        least("m6m6m6", 12, 12, 3);
        // Of two and two worth 9: 1 and 2 are a smaller number than 0 and 3.
        least("3456", 7, 9, 6);
        least("6453", 7, 9, 6);
        // Two that are worth less go ahead of one.
        least("339", 4, 6, 3);
        least("933", 4, 6, 6);
        least("9999999999", 80, 90, 1023);
        least("9999999999", 81, Ferns.NONE, Ferns.NONE);
        least("p9p9p9p9p9p9p9p9p9p9", 90, 90, 1023);
        least("p9p9p9p9p9p9p9p9p9p9", 91, Ferns.NONE, Ferns.NONE);
        least("p9p9p9p9p9p9p9p9p9p9", 99, Ferns.NONE, Ferns.NONE);
        PressedFerns x = Ferns.with(2, "5");
        Ferns.come(x, 3, "9");
        Ferns.come(x, 2, "78");
        due.is("least: just his", x.least(2, 8, 0), 12);
        due.is("least: just his, which", x.least(2, 8, 1), 5);
        due.is("least: another one's", x.least(3, 8, 1), 2);
        due.is("least: who has none", x.least(0, 1, 0), Ferns.NONE);
        x.bank(2);
        due.is("least: none at the bank", x.least(2, 8, 1), 9);
        due.is("least changes nothing", x.count(1), 28);
    }

    private static void promise16Refusals() {
        PressedFerns x = Ferns.with(2, "95");
        for (int nobody : Ferns.NO_PERSON) {
            due.is("least(" + nobody + ", 1, 0)", x.least(nobody, 1, 0), Ferns.UNKNOWN);
            due.is("least(" + nobody + ", 0, 2)", x.least(nobody, 0, 2), Ferns.UNKNOWN);
        }
        for (int sum : new int[] {0, -1, 100, Integer.MIN_VALUE, Integer.MAX_VALUE}) {
            due.is("least(2, " + sum + ", 0)", x.least(2, sum, 0), Ferns.OUTSIDE);
        }
        for (int what : new int[] {-1, 2, Integer.MIN_VALUE, Integer.MAX_VALUE}) {
            due.is("least(2, 1, " + what + ")", x.least(2, 1, what), Ferns.OUTSIDE);
        }
        due.is("least(2, 1, 0)", x.least(2, 1, 0), 5);
        due.is("least(2, 99, 1)", x.least(2, 99, 1), Ferns.NONE);
    }

    private static void ring(String name, PressedFerns x, int leastSum, int... people) {
        due.is(name + ": ring(0)", x.ring(0), people.length);
        due.is(name + ": ring(1)", x.ring(1), leastSum);
        for (int i = 0; i < 6; i++) {
            due.is(name + ": ring(1" + i + ")", x.ring(10 + i), i < people.length ? people[i] : Ferns.NONE);
        }
    }

    private static void promise17() {
        ring("none", new PressedFerns(), Ferns.NONE);
        ring("a row", Ferns.owing(0, 1, 5, 1, 2, 5, 0, 2, 5), Ferns.NONE);
        ring("two", Ferns.owing(5, 3, 7, 3, 5, 4), 4, 3, 5);
        ring("six", Ferns.owing(0, 5, 9, 5, 1, 8, 1, 4, 7, 4, 2, 6, 2, 3, 5, 3, 0, 4), 4, 0, 5, 1, 4, 2, 3);
        ring("the longest", Ferns.owing(0, 1, 5, 1, 0, 5, 2, 3, 9, 3, 4, 8, 4, 2, 7), 7, 2, 3, 4);
        ring("like ones, by the first", Ferns.owing(3, 4, 9, 4, 3, 9, 1, 5, 2, 5, 1, 3), 2, 1, 5);
        ring("like ones, by the second", Ferns.owing(0, 4, 1, 4, 0, 1, 0, 2, 3, 2, 0, 3), 3, 0, 2);
        ring("like ones, by the third",
            Ferns.owing(0, 1, 9, 1, 3, 9, 3, 0, 9, 1, 2, 4, 2, 0, 9), 4, 0, 1, 2);
        ring("both ways round", Ferns.owing(0, 1, 1, 1, 2, 1, 2, 0, 1, 0, 2, 5, 2, 1, 5, 1, 0, 5), 1, 0, 1, 2);
        ring("two rings through one", Ferns.owing(0, 1, 1, 1, 0, 1, 1, 2, 1, 2, 1, 1), 1, 0, 1);
        PressedFerns all = new PressedFerns();
        for (int a = 0; a < 6; a++) {
            for (int b = 0; b < 6; b++) {
                all.debt(a, b, 99 - a);
            }
        }
        ring("all", all, 94, 0, 1, 2, 3, 4, 5);
        all.debt(4, 5, 0);
        ring("all but one", all, 94, 0, 1, 2, 3, 5, 4);
        due.is("ring changes nothing", all.owes(0, 1), 99);
    }

    private static void promise17Refusals() {
        PressedFerns x = Ferns.owing(0, 1, 1, 1, 0, 1);
        for (int what : new int[] {-1, 2, 3, 9, 16, 17, Integer.MIN_VALUE, Integer.MAX_VALUE}) {
            due.is("ring(" + what + ")", x.ring(what), Ferns.OUTSIDE);
        }
    }

    private static void promise18() {
        due.is("clear: no ring", new PressedFerns().clear(), Ferns.STATE);
        PressedFerns x = Ferns.owing(0, 2, 12, 2, 4, 20, 4, 0, 9, 4, 2, 3, 1, 0, 7);
        due.is("clear()", x.clear(), 9);
        due.is("clear: owes(0, 2)", x.owes(0, 2), 3);
        due.is("clear: owes(2, 4)", x.owes(2, 4), 11);
        due.is("clear: owes(4, 0)", x.owes(4, 0), 0);
        due.is("clear: owes(4, 2)", x.owes(4, 2), 3);
        due.is("clear: owes(1, 0)", x.owes(1, 0), 7);
        due.is("clear: the next ring", x.clear(), 3);
        due.is("clear: the next ring, owes(2, 4)", x.owes(2, 4), 8);
        due.is("clear: the next ring, owes(4, 2)", x.owes(4, 2), 0);
        due.is("clear: none left", x.clear(), Ferns.STATE);
        due.is("clear: all that is owed", x.count(6), 18);
        x = Ferns.owing(0, 1, 99, 1, 0, 99);
        due.is("clear: 99", x.clear(), 99);
        due.is("clear: nothing is owed", x.count(6), 0);
        x = Ferns.owing(0, 5, 9, 5, 1, 8, 1, 4, 7, 4, 2, 6, 2, 3, 5, 3, 0, 4);
        due.is("clear: of six", x.clear(), 4);
        due.is("clear: of six, owes(0, 5)", x.owes(0, 5), 5);
        due.is("clear: of six, owes(3, 0)", x.owes(3, 0), 0);
        due.is("clear: of six, all", x.count(6), 15);
        x = Ferns.owing(4, 0, 9, 5, 0, 9, 4, 5, 9, 5, 4, 3);
        due.is("clear: the others stay", x.clear(), 3);
        due.is("clear: the others stay, all", x.count(6), 24);
        // Behind a ring of three one of two: nobody of the longer one is taken again.
        x = Ferns.owing(0, 1, 2, 1, 2, 2, 2, 0, 2, 0, 2, 5);
        due.is("clear: three, then none", x.clear(), 2);
        x.debt(2, 1, 6);
        x.debt(1, 2, 7);
        due.is("clear: two then", x.clear(), 6);
        due.is("clear: two then, owes(0, 2)", x.owes(0, 2), 5);
        due.is("clear: two then, all", x.count(6), 6);
    }

    private static void promise19() {
        due.is("fewest: nothing owed", new PressedFerns().fewest(), 0);
        due.is("fewest: one debt", Ferns.owing(0, 1, 5).fewest(), 1);
        due.is("fewest: even between two", Ferns.owing(0, 1, 5, 1, 0, 5).fewest(), 0);
        due.is("fewest: a row", Ferns.owing(0, 1, 5, 1, 2, 5).fewest(), 1);
        due.is("fewest: a ring", Ferns.owing(0, 1, 5, 1, 2, 5, 2, 0, 5).fewest(), 0);
        due.is("fewest: one to all", Ferns.owing(0, 1, 1, 0, 2, 1, 0, 3, 1, 0, 4, 1, 0, 5, 1).fewest(), 5);
        due.is("fewest: three pairs", Ferns.owing(0, 1, 5, 2, 3, 7, 4, 5, 9).fewest(), 3);
        due.is("fewest: pairs across", Ferns.owing(0, 1, 5, 0, 3, 2, 2, 3, 5, 2, 1, 2).fewest(), 2);
        due.is("fewest: pairs told by sums alone",
            Ferns.owing(0, 1, 3, 0, 3, 4, 2, 3, 5, 2, 5, 2, 4, 1, 4, 4, 5, 5).fewest(), 3);
        due.is("fewest: two threes", Ferns.owing(0, 1, 1, 0, 2, 2, 3, 4, 4, 3, 5, 7).fewest(), 4);
        due.is("fewest: a pair and four, across",
            Ferns.owing(0, 3, 4, 1, 3, 1, 1, 4, 1, 2, 4, 2, 2, 5, 1).fewest(), 4);
        due.is("fewest: the document's run", Ferns.owing(2, 4, 20, 4, 0, 9, 0, 2, 12, 4, 2, 3).fewest(), 2);
        PressedFerns x = Ferns.owing(0, 1, 5);
        x.fewest();
        due.is("fewest changes nothing", x.owes(0, 1), 5);
    }

    private static void held(String book, int months, int tenths, long above, long below) {
        PressedFerns x = Ferns.with(0, book);
        String call = "held(0, " + months + ", " + tenths + ", ";
        due.is(call + "0) of " + book, x.held(0, months, tenths, 0), above);
        due.is(call + "1) of " + book, x.held(0, months, tenths, 1), below);
    }

    private static void promise20() {
        held("7", 0, 0, 6, 1);
        held("7", 0, 10, 6, 1);
        held("7", 4, 5, 4, 1);
        held("7", 1, 3, 57, 10);
        held("7", 9, 10, 0, 1);
        held("7", 9, 0, 6, 1);
        held("0", 9, 5, 0, 1);
        held("1", 3, 7, 0, 1);
        held("2", 1, 5, 1, 2);
        held("2", 9, 1, 387420489, 1000000000);
        held("b9", 1, 1, 69, 10);
        held("m6", 1, 5, 5, 1);
        held("m7", 2, 5, 23, 4);
        held("p9", 9, 9, 9, 1);
        held("p8", 9, 9, 7, 1);
        held("w9", 1, 5, 5, 1);
        held("w9", 2, 10, 2, 1);
        held("w9", 3, 10, 0, 1);
        held("w4", 1, 1, 9, 10);
        PressedFerns x = Ferns.with(0, "m7");
        x.bank(0);
        due.is("held: no mould at the bank", x.held(0, 9, 10, 0), 7);
        due.is("held: no mould at the bank, below", x.held(0, 9, 5, 1), 1);
        x.fetch(0, 1);
        due.is("held: mould again", x.held(0, 2, 10, 0), 4);
        due.is("held changes nothing", x.count(1), 7);
    }

    private static void promise20Refusals() {
        PressedFerns x = Ferns.with(0, "7");
        for (int frond : new int[] {-1, 1, 10, Integer.MIN_VALUE, Integer.MAX_VALUE}) {
            due.is("held(" + frond + ", 0, 0, 0)", x.held(frond, 0, 0, 0), Ferns.UNKNOWN);
            due.is("held(" + frond + ", 10, 11, 2)", x.held(frond, 10, 11, 2), Ferns.UNKNOWN);
            due.is("when(" + frond + ", 0, 0)", x.when(frond, 0, 0), Ferns.UNKNOWN);
            due.is("when(" + frond + ", 10, 11)", x.when(frond, 10, 11), Ferns.UNKNOWN);
        }
        for (int months : new int[] {-1, 10, Integer.MIN_VALUE, Integer.MAX_VALUE}) {
            due.is("held(0, " + months + ", 0, 0)", x.held(0, months, 0, 0), Ferns.OUTSIDE);
            due.is("when(0, " + months + ", 0)", x.when(0, months, 0), Ferns.OUTSIDE);
        }
        for (int tenths : new int[] {-1, 11, Integer.MIN_VALUE, Integer.MAX_VALUE}) {
            due.is("held(0, 0, " + tenths + ", 0)", x.held(0, 0, tenths, 0), Ferns.OUTSIDE);
            due.is("when(0, 0, " + tenths + ")", x.when(0, 0, tenths), Ferns.OUTSIDE);
        }
        for (int part : new int[] {-1, 2, Integer.MIN_VALUE, Integer.MAX_VALUE}) {
            due.is("held(0, 0, 0, " + part + ")", x.held(0, 0, 0, part), Ferns.OUTSIDE);
        }
    }

    private static void when(String book, int months, int tenths, int last) {
        PressedFerns x = Ferns.with(0, book);
        due.is("when(0, " + months + ", " + tenths + ") of " + book, x.when(0, months, tenths), last);
    }

    private static void promise21() {
        when("7", 9, 0, 9);
        when("7", 9, 1, 0);
        when("7", 9, 10, 0);
        when("7", 0, 5, 0);
        when("7", 4, 0, 4);
        when("1", 9, 10, 9);
        when("1", 1, 10, 1);
        when("0", 6, 5, 6);
        when("2", 6, 1, 0);
        when("b2", 7, 3, 7);
        when("b3", 7, 3, 0);
        when("w3", 8, 3, 8);
        when("w4", 8, 3, 0);
        when("m6", 8, 1, 0);
        when("p9", 9, 10, 9);
        when("p3", 3, 10, 3);
        PressedFerns x = Ferns.with(0, "9");
        x.bank(0);
        due.is("when: at the bank", x.when(0, 9, 10), 9);
    }

    private static void promise22() {
        PressedFerns x = Ferns.with(2, "9");
        due.is("went: not at all", x.went(0, 2, 0, 0), 1);
        due.is("went: not at all, of another one", x.went(0, 1, 0, 0), 0);
        due.is("went: a tear too many", x.went(0, 2, 2, 0), 0);
        x.pay(0, 4);
        due.is("went: by one hand", x.went(0, 2, 1, 0), 1);
        due.is("went: by one hand of another one", x.went(0, 3, 1, 0), 0);
        due.is("went: a tear too few", x.went(0, 2, 0, 1), 0);
        due.is("went: two hands, one tear", x.went(0, 4, 2, 0), 0);
        x.pay(0, 0);
        x.pay(0, 4);
        x.pay(0, 1);
        due.is("went: four hands", x.went(0, 2, 4, 0), 1);
        due.is("went: four hands of another one", x.went(0, 4, 4, 0), 0);
        due.is("went: five hands, leaflets", x.went(0, 3, 5, 0), 0);
        x.pay(0, 3);
        due.is("went: five hands", x.went(0, 2, 5, 0), 1);
        due.is("went: five hands of another one", x.went(0, 0, 5, 0), 1);
        due.is("went: five hands of who gave next", x.went(0, 4, 5, 0), 0);
        x.pay(0, 2);
        // Tears 3, 1, 4, 0: the second of six is neither the first nor 0.
        due.is("went: six hands", x.went(0, 2, 6, 0), 4);
        due.is("went: six hands, the second from who is the third", x.went(0, 0, 6, 0), 5);
        PressedFerns round = Ferns.with(1, "p9");
        round.bank(0);
        round.fetch(0, 1);
        due.is("went: never from him to himself", round.went(0, 1, 1, 0), 0);
        due.is("went changes nothing", round.about(0, 4), 1);
    }

    private static void promise22Orders() {
        PressedFerns x = Ferns.with(2, "7");
        due.is("went: two months", x.went(0, 2, 0, 2), 1);
        due.is("went: one month", x.went(0, 2, 0, 1), 0);
        x = Ferns.with(2, "7");
        x.pay(0, 1);
        due.is("went: a hand and two months", x.went(0, 2, 1, 2), 3);
        x = Ferns.with(2, "p9");
        x.pay(0, 1);
        x.pay(0, 2);
        due.is("went: two hands and four months", x.went(0, 2, 2, 4), 15);
        x = Ferns.with(2, "m9");
        x.pay(0, 1);
        x.month(true);
        x.month(true);
        x.month(true);
        due.is("went: a male, 6", x.went(0, 2, 1, 3), 4);
        x.month(true);
        due.is("went: a male, 5", x.went(0, 2, 1, 4), 4);
        x = Ferns.with(2, "m9");
        for (int i = 0; i < 4; i++) {
            x.month(true);
        }
        x.pay(0, 1);
        due.is("went: a male, 4, the hand comes last", x.went(0, 2, 1, 4), 1);
        x = Ferns.with(2, "w9");
        x.pay(0, 1);
        x.pay(0, 2);
        x.pay(0, 1);
        x.pay(0, 2);
        x.pay(0, 1);
        x.pay(0, 2);
        due.is("went: nothing left, any order", x.went(0, 2, 6, 4), 1050);
        due.is("went: nothing left, no months", x.went(0, 2, 6, 0), 5);
        x = Ferns.with(2, "4");
        due.is("went: not within four months", x.went(0, 2, 0, 4), 0);
    }

    private static void promise22Refusals() {
        PressedFerns x = Ferns.with(2, "99");
        x.bank(1);
        for (int frond : new int[] {-1, 2, 10, Integer.MIN_VALUE, Integer.MAX_VALUE}) {
            due.is("went(" + frond + ", 2, 0, 0)", x.went(frond, 2, 0, 0), Ferns.UNKNOWN);
            due.is("went(" + frond + ", 2, 7, 5)", x.went(frond, 2, 7, 5), Ferns.UNKNOWN);
        }
        for (int nobody : Ferns.NO_PERSON) {
            due.is("went(0, " + nobody + ", 0, 0)", x.went(0, nobody, 0, 0), Ferns.UNKNOWN);
            due.is("went(1, " + nobody + ", 7, 5)", x.went(1, nobody, 7, 5), Ferns.UNKNOWN);
        }
        for (int hands : new int[] {-1, 7, Integer.MIN_VALUE, Integer.MAX_VALUE}) {
            due.is("went(0, 2, " + hands + ", 0)", x.went(0, 2, hands, 0), Ferns.OUTSIDE);
            due.is("went(1, 2, " + hands + ", 0)", x.went(1, 2, hands, 0), Ferns.OUTSIDE);
        }
        for (int months : new int[] {-1, 5, Integer.MIN_VALUE, Integer.MAX_VALUE}) {
            due.is("went(0, 2, 0, " + months + ")", x.went(0, 2, 0, months), Ferns.OUTSIDE);
            due.is("went(1, 2, 0, " + months + ")", x.went(1, 2, 0, months), Ferns.OUTSIDE);
        }
        due.is("went: at the bank", x.went(1, 2, 1, 0), Ferns.STATE);
        due.is("went: at the bank, whatever", x.went(1, 0, 6, 4), Ferns.STATE);
    }

    private static void promise23() {
        PressedFerns x = Ferns.with(0, "9b8p9w7");
        x.bank(1);
        due.is("months: never damp", x.months(60, 0, 5, 1), 0);
        due.is("months: always damp", x.months(60, 10, 5, 1), 60);
        due.is("months: what is at the bank stays", x.months(60, 10, 5, 0) >= 6 ? 1 : 0, 1);
        due.is("months change nothing", x.count(1), 31);
        due.is("months change nothing: lost", x.count(2), 2);
        due.is("months change nothing: mould", x.count(3), 0);
        due.is("months change nothing: owner", x.about(0, 2), 0);
        x = Ferns.with(0, "9");
        x.bank(0);
        due.is("months: all at the bank", x.months(60, 10, 5, 0), 8);
    }

    /** The draws as the document tells them, step by step. */
    private static void promise23Draws() {
        for (int seed : new int[] {0, 1, 91, 65536, 2147483647}) {
            long s = seed;
            PressedFerns x = new PressedFerns();
            for (int times = 1; times <= 3; times++) {
                s = (1103515245L * s + 12345) % 2147483648L;
                due.is("months without fronds: seed " + seed + ", " + times, x.months(times, 5, seed, 2), s);
            }
            s = (1103515245L * (long) seed + 12345) % 2147483648L;
            due.is("months: damp " + seed, x.months(1, (int) (s / 65536 % 10), seed, 1), 0);
            due.is("months: damp by one more " + seed, x.months(1, (int) (s / 65536 % 10) + 1, seed, 1), 1);
            long afterFrond = (1103515245L * s + 12345) % 2147483648L;
            long afterPerson = (1103515245L * afterFrond + 12345) % 2147483648L;
            int frond = (int) (afterFrond / 65536 % 3);
            int person = (int) (afterPerson / 65536 % 6);
            x = Ferns.with((person + 1) % 6, "999");
            due.is("months: seed " + seed + " with fronds", x.months(1, 0, seed, 2), afterPerson);
            due.is("months: a hand, " + seed, x.months(1, 0, seed, 0), 26);
            due.is("months: mould, then a hand, " + seed, x.months(1, 10, seed, 0), 23);
            x.bank(frond);
            due.is("months: of one at the bank, " + seed, x.months(1, 0, seed, 0), 26);
            due.is("months: of one at the bank, the seed, " + seed, x.months(1, 0, seed, 2), afterPerson);
            x.fetch(frond, person);
            due.is("months: his own, " + seed, x.months(1, 0, seed, 0), 26);
            due.is("months: his own, the seed, " + seed, x.months(1, 0, seed, 2), afterPerson);
        }
        promise23Kinds();
    }

    private static void promise23Kinds() {
        PressedFerns x = Ferns.with(2, "9b7m9p91");
        due.is("months: the same twice", x.months(20, 4, 7, 0), x.months(20, 4, 7, 0));
        // From 0 the draws are 0, then of 1 frond 0, then person 0.
        long s = 12345;
        s = (1103515245L * s + 12345) % 2147483648L;
        s = (1103515245L * s + 12345) % 2147483648L;
        int person = (int) (s / 65536 % 6);
        String[] kinds = {"", "b", "m", "p", "w"};
        int[] dry = {8, 7, 9, 9, 6};
        int[] damp = {7, 6, 8, 9, 4};
        for (int kind = 0; kind < kinds.length; kind++) {
            x = Ferns.with((person + 1) % 6, kinds[kind] + "9");
            due.is("months: one dry month of one '" + kinds[kind] + "9'", x.months(1, 0, 0, 0), dry[kind]);
            due.is("months: one damp month of one '" + kinds[kind] + "9'", x.months(1, 10, 0, 0), damp[kind]);
            due.is("months: the seed then", x.months(1, 10, 0, 2), s);
        }
        x = Ferns.with(0, "p9");
        due.is("months: a whole pressed one loses nothing", x.months(60, 10, 7, 0), 9);
        x = Ferns.with(0, "w9");
        due.is("months: a wet one loses all", x.months(60, 10, 7, 0), 0);
    }

    private static void promise23Refusals() {
        PressedFerns x = Ferns.with(0, "9");
        for (int times : new int[] {0, -1, 61, Integer.MIN_VALUE, Integer.MAX_VALUE}) {
            due.is("months(" + times + ", 0, 0, 0)", x.months(times, 0, 0, 0), Ferns.OUTSIDE);
        }
        for (int tenths : new int[] {-1, 11, Integer.MIN_VALUE, Integer.MAX_VALUE}) {
            due.is("months(1, " + tenths + ", 0, 0)", x.months(1, tenths, 0, 0), Ferns.OUTSIDE);
        }
        for (int seed : new int[] {-1, Integer.MIN_VALUE}) {
            due.is("months(1, 0, " + seed + ", 0)", x.months(1, 0, seed, 0), Ferns.OUTSIDE);
        }
        for (int what : new int[] {-1, 3, Integer.MIN_VALUE, Integer.MAX_VALUE}) {
            due.is("months(1, 0, 0, " + what + ")", x.months(1, 0, 0, what), Ferns.OUTSIDE);
        }
        due.is("months(60, 0, 0, 1)", x.months(60, 0, 0, 1), 0);
        due.is("months(1, 10, 0, 1)", x.months(1, 10, 0, 1), 1);
    }
}
