import java.util.ArrayList;
import java.util.List;
import java.util.function.Consumer;
import java.util.function.Supplier;
import java.util.function.ToLongFunction;

/** "Refusals, of several the first as told by each call ..; they change nothing", and what just asks changes nothing. */
public final class RefusedTest {
    private static final Due due = new Due("RefusedTest");
    private static final int[] FAR = {Integer.MIN_VALUE, Integer.MIN_VALUE + 1, Integer.MAX_VALUE - 1, Integer.MAX_VALUE};

    public static void main(String[] args) {
        refusedLetters();
        refusedBooks();
        refusedFronds();
        refusedSnaps();
        refusedHands();
        refusedDebts();
        refusedLeast();
        refusedRings();
        refusedHeld();
        refusedWent();
        refusedMonths();
        refusedOfAll();
        askers();
        nothingElseChanges();
        due.end();
    }

    /** Nine fronds in all ways (3 and 8 at the bank), debts with a ring, four letters that are a book, an image. */
    private static PressedFerns many() {
        PressedFerns x = Ferns.with(1, "9b8m7p9w6p8");
        x.debt(1, 2, 30);
        x.debt(2, 0, 12);
        x.debt(0, 1, 40);
        x.pay(0, 2);
        x.month(true);
        x.bank(3);
        x.image();
        Ferns.come(x, 5, "9b1");
        x.pay(1, 2);
        x.pay(1, 3);
        x.snap(2, 2);
        x.bank(8);
        x.debt(5, 4, 7);
        Ferns.write(x, "b3w4");
        return x;
    }

    /** Ten fronds (9 at the bank), a page of 22 letters that is none of a book, no debts, no image. */
    private static PressedFerns full() {
        PressedFerns x = Ferns.with(4, "123456789w9");
        x.bank(9);
        Ferns.write(x, "b5b5b5b5b5b5b5b5b5b5bb");
        return x;
    }

    /** All that an object tells, but for its image. */
    private static List<Long> told(PressedFerns x) {
        List<Long> all = new ArrayList<>();
        for (int frond = 0; frond <= 10; frond++) {
            for (int what = 0; what <= 7; what++) {
                all.add((long) x.about(frond, what));
            }
        }
        for (int a = 0; a < 6; a++) {
            for (int b = 0; b < 6; b++) {
                all.add((long) x.owes(a, b));
            }
        }
        for (int what = 0; what <= 6; what++) {
            all.add((long) x.count(what));
        }
        all.add((long) x.fault());
        all.add(x.digest());
        return all;
    }

    private static void same(String call, Supplier<PressedFerns> made, ToLongFunction<PressedFerns> called, long answer) {
        PressedFerns x = made.get();
        List<Long> before = told(x);
        due.is(call, called.applyAsLong(x), answer);
        due.holds(call + " changes something", told(x).equals(before));
        due.is(call + ", again", called.applyAsLong(x), answer);
        // The image, too, is as it would be without the call.
        PressedFerns other = made.get();
        due.is(call + ": restore()", x.restore(), other.restore());
        due.holds(call + " changes the image", told(x).equals(told(other)));
    }

    private static void refused(String call, ToLongFunction<PressedFerns> called, long answer) {
        same(call, RefusedTest::many, called, answer);
    }

    private static void refusedFull(String call, ToLongFunction<PressedFerns> called, long answer) {
        same("full: " + call, RefusedTest::full, called, answer);
    }

    private static void refusedLetters() {
        for (int place = 0; place < 8; place++) {
            long ahead = place == 0 ? 0 : 0x3535353535353535L >>> (64 - 8 * place);
            int at = 8 * place;
            for (long code : new long[] {127, 128, 255}) {
                refused("letters: " + code + " at " + place, x -> x.letters(ahead | code << at), Ferns.OUTSIDE);
            }
            if (place > 0) {
                refused("letters: one at " + place + " behind a 0", x -> x.letters(1L << at), Ferns.OUTSIDE);
                refused("letters: 126 at " + place + " behind a 0", x -> x.letters(126L << at), Ferns.OUTSIDE);
            }
        }
        refusedFull("letters: 23", x -> x.letters('5'), Ferns.FULL);
        refusedFull("letters: 30", x -> x.letters(Ferns.coded("55555555")), Ferns.FULL);
        refusedFull("letters: OUTSIDE ahead of FULL", x -> x.letters(127), Ferns.OUTSIDE);
    }

    private static void refusedBooks() {
        for (int nobody : people()) {
            refused("book(" + nobody + ")", x -> x.book(nobody), Ferns.UNKNOWN);
            refusedFull("book(" + nobody + "), UNKNOWN ahead of STATE", x -> x.book(nobody), Ferns.UNKNOWN);
        }
        refused("book: FULL", x -> x.book(0), Ferns.FULL);
        refusedFull("book: STATE ahead of FULL", x -> x.book(0), Ferns.STATE);
        same("book: empty", () -> Ferns.with(0, "5"), x -> x.book(0), Ferns.STATE);
        same("book: ends too early", () -> writtenOn("5b"), x -> x.book(0), Ferns.STATE);
        same("book: none", () -> writtenOn("5x5"), x -> x.book(0), Ferns.STATE);
        same("book: eleven in one", () -> writtenOn("b1b1b1b1b1b1b1b1b1b11"), x -> x.book(0), Ferns.STATE);
    }

    private static PressedFerns writtenOn(String page) {
        PressedFerns x = Ferns.with(0, "57");
        Ferns.write(x, page);
        return x;
    }

    /** Numbers that name nobody. */
    private static int[] people() {
        return with(-1, 6);
    }

    /** Numbers that name no frond of many(). */
    private static int[] fronds() {
        return with(-1, 9);
    }

    private static int[] with(int... near) {
        int[] all = new int[near.length + FAR.length];
        System.arraycopy(near, 0, all, 0, near.length);
        System.arraycopy(FAR, 0, all, near.length, FAR.length);
        return all;
    }

    private static void refusedFronds() {
        for (int frond : fronds()) {
            refused("about(" + frond + ", 0)", x -> x.about(frond, 0), Ferns.UNKNOWN);
            refused("about(" + frond + ", 8)", x -> x.about(frond, 8), Ferns.UNKNOWN);
            refused("as(" + frond + ", 0)", x -> x.as(frond, 0), Ferns.UNKNOWN);
            refused("as(" + frond + ", 5)", x -> x.as(frond, 5), Ferns.UNKNOWN);
        }
        for (int what : with(-1, 8)) {
            refused("about(0, " + what + ")", x -> x.about(0, what), Ferns.OUTSIDE);
        }
        for (int kind : with(-1, 5)) {
            refused("as(0, " + kind + ")", x -> x.as(0, kind), Ferns.OUTSIDE);
        }
        refused("as: the cast fails", x -> x.as(0, 1), Ferns.NONE);
        refusedFull("about(10, 0)", x -> x.about(10, 0), Ferns.UNKNOWN);
        refusedFull("as(10, 0)", x -> x.as(10, 0), Ferns.UNKNOWN);
    }

    private static void refusedSnaps() {
        for (int frond : fronds()) {
            refused("snap(" + frond + ", 1)", x -> x.snap(frond, 1), Ferns.UNKNOWN);
            refused("snap(" + frond + ", 0)", x -> x.snap(frond, 0), Ferns.UNKNOWN);
        }
        for (int leaflets : with(-1, 0, 9)) {
            refused("snap(0, " + leaflets + ")", x -> x.snap(0, leaflets), Ferns.OUTSIDE);
            refused("snap(3, " + leaflets + "), OUTSIDE ahead of STATE", x -> x.snap(3, leaflets), Ferns.OUTSIDE);
            refusedFull("snap(9, " + leaflets + "), OUTSIDE ahead of STATE, FULL", x -> x.snap(9, leaflets), Ferns.OUTSIDE);
        }
        refused("snap: at the bank", x -> x.snap(3, 1), Ferns.STATE);
        refused("snap: as many as it has", x -> x.snap(0, 7), Ferns.STATE);
        refused("snap: more than it has", x -> x.snap(0, 8), Ferns.STATE);
        refusedFull("snap: STATE ahead of FULL", x -> x.snap(0, 1), Ferns.STATE);
        refusedFull("snap: at the bank, ahead of FULL", x -> x.snap(9, 1), Ferns.STATE);
        refusedFull("snap: FULL", x -> x.snap(8, 1), Ferns.FULL);
    }

    private static void refusedHands() {
        for (int frond : fronds()) {
            refused("pay(" + frond + ", 0)", x -> x.pay(frond, 0), Ferns.UNKNOWN);
            refused("bank(" + frond + ")", x -> x.bank(frond), Ferns.UNKNOWN);
            refused("fetch(" + frond + ", 0)", x -> x.fetch(frond, 0), Ferns.UNKNOWN);
        }
        for (int nobody : people()) {
            refused("pay(0, " + nobody + ")", x -> x.pay(0, nobody), Ferns.UNKNOWN);
            refused("pay(3, " + nobody + "), UNKNOWN ahead of STATE", x -> x.pay(3, nobody), Ferns.UNKNOWN);
            refused("fetch(3, " + nobody + ")", x -> x.fetch(3, nobody), Ferns.UNKNOWN);
            refused("fetch(0, " + nobody + "), UNKNOWN ahead of STATE", x -> x.fetch(0, nobody), Ferns.UNKNOWN);
        }
        for (int person = 0; person < 6; person++) {
            int to = person;
            refused("pay(3, " + to + ") at the bank", x -> x.pay(3, to), Ferns.STATE);
            refused("fetch(0, " + to + ") not at the bank", x -> x.fetch(0, to), Ferns.STATE);
        }
        refused("pay: his", x -> x.pay(0, 2), Ferns.STATE);
        refused("bank: there", x -> x.bank(3), Ferns.STATE);
    }

    private static void refusedDebts() {
        for (int nobody : people()) {
            refused("debt(" + nobody + ", 0, 1)", x -> x.debt(nobody, 0, 1), Ferns.UNKNOWN);
            refused("debt(0, " + nobody + ", 1)", x -> x.debt(0, nobody, 1), Ferns.UNKNOWN);
            refused("debt(0, " + nobody + ", 100), UNKNOWN ahead of OUTSIDE", x -> x.debt(0, nobody, 100), Ferns.UNKNOWN);
            refused("owes(" + nobody + ", 0)", x -> x.owes(nobody, 0), Ferns.UNKNOWN);
            refused("owes(0, " + nobody + ")", x -> x.owes(0, nobody), Ferns.UNKNOWN);
        }
        for (int person = 0; person < 6; person++) {
            int same = person;
            refused("debt(" + same + ", " + same + ", 1)", x -> x.debt(same, same, 1), Ferns.UNKNOWN);
            refused("debt(" + same + ", " + same + ", 100)", x -> x.debt(same, same, 100), Ferns.UNKNOWN);
            refused("owes(" + same + ", " + same + ")", x -> x.owes(same, same), Ferns.UNKNOWN);
        }
        for (int v : with(-1, 100)) {
            refused("debt(1, 2, " + v + ")", x -> x.debt(1, 2, v), Ferns.OUTSIDE);
        }
    }

    private static void refusedLeast() {
        for (int nobody : people()) {
            refused("least(" + nobody + ", 1, 0)", x -> x.least(nobody, 1, 0), Ferns.UNKNOWN);
            refused("least(" + nobody + ", 0, 2), UNKNOWN ahead of OUTSIDE", x -> x.least(nobody, 0, 2), Ferns.UNKNOWN);
        }
        for (int sum : with(-1, 0, 100)) {
            refused("least(1, " + sum + ", 0)", x -> x.least(1, sum, 0), Ferns.OUTSIDE);
        }
        for (int what : with(-1, 2)) {
            refused("least(1, 1, " + what + ")", x -> x.least(1, 1, what), Ferns.OUTSIDE);
        }
        refused("least: by none", x -> x.least(1, 99, 0), Ferns.NONE);
        refused("least: by none, which", x -> x.least(1, 99, 1), Ferns.NONE);
    }

    private static void refusedRings() {
        for (int what : with(-1, 2, 3, 8, 9, 16, 17)) {
            refused("ring(" + what + ")", x -> x.ring(what), Ferns.OUTSIDE);
            refusedFull("ring(" + what + "), OUTSIDE though there is none", x -> x.ring(what), Ferns.OUTSIDE);
        }
        refusedFull("clear: there is none", PressedFerns::clear, Ferns.STATE);
        same("clear: a row is none", () -> Ferns.owing(0, 1, 5, 1, 2, 5, 0, 2, 5, 4, 3, 1), PressedFerns::clear, Ferns.STATE);
    }

    private static void refusedHeld() {
        for (int frond : fronds()) {
            refused("held(" + frond + ", 0, 0, 0)", x -> x.held(frond, 0, 0, 0), Ferns.UNKNOWN);
            refused("held(" + frond + ", 10, 11, 2), UNKNOWN ahead of OUTSIDE", x -> x.held(frond, 10, 11, 2), Ferns.UNKNOWN);
            refused("when(" + frond + ", 0, 0)", x -> x.when(frond, 0, 0), Ferns.UNKNOWN);
            refused("when(" + frond + ", 10, 11), UNKNOWN ahead of OUTSIDE", x -> x.when(frond, 10, 11), Ferns.UNKNOWN);
        }
        for (int months : with(-1, 10)) {
            refused("held(0, " + months + ", 0, 0)", x -> x.held(0, months, 0, 0), Ferns.OUTSIDE);
            refused("held(3, " + months + ", 0, 0) at the bank", x -> x.held(3, months, 0, 0), Ferns.OUTSIDE);
            refused("when(0, " + months + ", 0)", x -> x.when(0, months, 0), Ferns.OUTSIDE);
            refused("when(3, " + months + ", 0) at the bank", x -> x.when(3, months, 0), Ferns.OUTSIDE);
        }
        for (int tenths : with(-1, 11)) {
            refused("held(0, 0, " + tenths + ", 0)", x -> x.held(0, 0, tenths, 0), Ferns.OUTSIDE);
            refused("held(3, 0, " + tenths + ", 0) at the bank", x -> x.held(3, 0, tenths, 0), Ferns.OUTSIDE);
            refused("when(0, 0, " + tenths + ")", x -> x.when(0, 0, tenths), Ferns.OUTSIDE);
            refused("when(3, 0, " + tenths + ") at the bank", x -> x.when(3, 0, tenths), Ferns.OUTSIDE);
        }
        for (int part : with(-1, 2)) {
            refused("held(0, 0, 0, " + part + ")", x -> x.held(0, 0, 0, part), Ferns.OUTSIDE);
        }
    }

    private static void refusedWent() {
        for (int frond : fronds()) {
            refused("went(" + frond + ", 0, 0, 0)", x -> x.went(frond, 0, 0, 0), Ferns.UNKNOWN);
            refused("went(" + frond + ", 0, 7, 5), UNKNOWN ahead of OUTSIDE", x -> x.went(frond, 0, 7, 5), Ferns.UNKNOWN);
        }
        for (int nobody : people()) {
            refused("went(0, " + nobody + ", 0, 0)", x -> x.went(0, nobody, 0, 0), Ferns.UNKNOWN);
            refused("went(3, " + nobody + ", 7, 5), UNKNOWN ahead of OUTSIDE, STATE", x -> x.went(3, nobody, 7, 5), Ferns.UNKNOWN);
        }
        for (int hands : with(-1, 7)) {
            refused("went(0, 0, " + hands + ", 0)", x -> x.went(0, 0, hands, 0), Ferns.OUTSIDE);
            refused("went(3, 0, " + hands + ", 0), OUTSIDE ahead of STATE", x -> x.went(3, 0, hands, 0), Ferns.OUTSIDE);
        }
        for (int months : with(-1, 5)) {
            refused("went(0, 0, 0, " + months + ")", x -> x.went(0, 0, 0, months), Ferns.OUTSIDE);
            refused("went(3, 0, 0, " + months + "), OUTSIDE ahead of STATE", x -> x.went(3, 0, 0, months), Ferns.OUTSIDE);
        }
        refused("went: at the bank", x -> x.went(3, 1, 1, 0), Ferns.STATE);
    }

    private static void refusedMonths() {
        for (int times : with(-1, 0, 61)) {
            refused("months(" + times + ", 5, 7, 0)", x -> x.months(times, 5, 7, 0), Ferns.OUTSIDE);
        }
        for (int tenths : with(-1, 11)) {
            refused("months(9, " + tenths + ", 7, 0)", x -> x.months(9, tenths, 7, 0), Ferns.OUTSIDE);
        }
        for (int seed : new int[] {-1, -2, Integer.MIN_VALUE}) {
            refused("months(9, 5, " + seed + ", 0)", x -> x.months(9, 5, seed, 0), Ferns.OUTSIDE);
        }
        for (int what : with(-1, 3)) {
            refused("months(9, 5, 7, " + what + ")", x -> x.months(9, 5, 7, what), Ferns.OUTSIDE);
        }
    }

    private static void refusedOfAll() {
        for (int what : with(-1, 7)) {
            refused("count(" + what + ")", x -> x.count(what), Ferns.OUTSIDE);
        }
        refusedFull("restore: none was kept", PressedFerns::restore, Ferns.STATE);
    }

    /** Calls that just ask, with arguments that are as told. */
    private static void askers() {
        asks("fault", x -> x.fault());
        asks("letters(0)", x -> x.letters(0));
        asks("about", x -> x.about(0, 3));
        asks("as", x -> x.as(4, 1));
        asks("owes", x -> x.owes(0, 1));
        asks("month(false)", x -> x.month(false));
        asks("count", x -> x.count(1));
        asks("digest", x -> x.digest());
        for (int what = 0; what < 2; what++) {
            int part = what;
            asks("least", x -> x.least(1, 6, part));
            asks("ring", x -> x.ring(part) + x.ring(10 + part));
            asks("held", x -> x.held(0, 9, 5, part));
            asks("held at the bank", x -> x.held(3, 9, 5, part));
        }
        asks("fewest", x -> x.fewest());
        asks("when", x -> x.when(0, 9, 5));
        asks("went", x -> x.went(0, 1, 1, 1));
        for (int what = 0; what < 3; what++) {
            int which = what;
            asks("months", x -> x.months(60, 5, 7, which));
        }
    }

    private static void asks(String call, ToLongFunction<PressedFerns> called) {
        refused(call, called, called.applyAsLong(many()));
    }

    /** Calls that change something change just that: taken back, all is as before. */
    private static void nothingElseChanges() {
        int owed = many().owes(1, 2);
        takenBack("debt", x -> x.debt(1, 2, 5), x -> x.debt(1, 2, owed));
        takenBack("blank", x -> x.blank(), x -> Ferns.write(x, "b3w4"));
        takenBack("letters", x -> x.letters('5'), x -> {
            x.blank();
            Ferns.write(x, "b3w4");
        });
        takenBack("image", x -> x.image(), x -> x.restore());
        takenBack("image, all that changes fronds and debts", x -> {
            x.image();
            x.snap(0, 1);
            x.pay(4, 0);
            x.debt(4, 3, 9);
            x.bank(0);
            x.fetch(3, 5);
            x.month(true);
            x.june();
            x.clear();
        }, x -> x.restore());
    }

    private static void takenBack(String name, Consumer<PressedFerns> call, Consumer<PressedFerns> back) {
        PressedFerns x = many();
        List<Long> before = told(x);
        call.accept(x);
        due.holds(name + " changes nothing", !told(x).equals(before) || name.equals("image"));
        back.accept(x);
        due.holds(name + ", taken back", told(x).equals(before));
    }
}
